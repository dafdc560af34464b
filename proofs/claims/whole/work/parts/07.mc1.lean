/-! numbers, truth values, loops -/
def bI (b : Bool) : Int32 := if b = true then nI 1 else nI 0
theorem bI_t : bI true = nI 1 := rfl
theorem bI_f : bI false = nI 0 := rfl
theorem bI_z {b : Bool} : bI b = 0 ↔ b = false := by cases b <;> decide
theorem bI_nar (b : Bool) : narrow .boolean (.int (bI b)) = .int (bI b) := by cases b <;> rfl
theorem bI_narz (b : Bool) : vp_nar .boolean (bI b) = bI b := by cases b <;> rfl
def inR (x a b : Int32) : Bool := decide (¬ x < a ∧ ¬ b < x)
theorem inR_nat {x : Int32} {a b : Nat} (ha : a < 2 ^ 31) (hb : b < 2 ^ 31) (h : inR x (nI a) (nI b) = true) : ∃ j : Nat, a ≤ j ∧ j ≤ b ∧ x = nI j := by
  simp only [inR, decide_eq_true_eq] at h
  have h0 : ¬ x < 0 := by
    intro h1
    apply h.1
    have e1 := nI_toInt (n := a) ha
    rw [Int32.lt_iff_toInt_lt] at h1 ⊢
    have e0 : (0 : Int32).toInt = 0 := by decide
    omega
  obtain ⟨j, hj, rfl⟩ := nI_of h0
  have h1 := h.1
  have h2 := h.2
  rw [nI_ltI hj ha] at h1
  rw [nI_ltI hb hj] at h2
  exact ⟨j, by omega, by omega, rfl⟩
theorem inR_in {a b j : Nat} (hb : b < 2 ^ 31) (h1 : a ≤ j) (h2 : j ≤ b) : inR (nI j) (nI a) (nI b) = true := by
  simp only [inR, decide_eq_true_eq]
  rw [nI_ltI (by omega) (by omega), nI_ltI (by omega) (by omega)]
  omega
section WLOOP
variable {p : Program} {l : Launch} {e : Env} {R : Room} {s : State} {m : MethodId} {args : Array Value} {below : List Frame} {meth : Method} {c : Code} {cells slots : Nat} {Q : State → Prop} {pc : Nat} {stk : List Value}
theorem wloop {σ : Type} (μ : σ → Nat) (I : σ → Heap → List Loc → Array Slot → Prop) (step : ∀ x H locs ls, I x H locs ls → (∀ x' H' locs' ls', μ x' < μ x → I x' H' locs' ls' → W p l e R s m args below meth c H' locs' cells slots Q (F0 m pc ls' stk)) → W p l e R s m args below meth c H locs cells slots Q (F0 m pc ls stk)) : ∀ x H locs ls, I x H locs ls → W p l e R s m args below meth c H locs cells slots Q (F0 m pc ls stk) := by
  have key : ∀ n x H locs ls, μ x < n → I x H locs ls → W p l e R s m args below meth c H locs cells slots Q (F0 m pc ls stk) := by
    intro n
    induction n with
    | zero => intro x H locs ls h; exact absurd h (by omega)
    | succ n ih =>
      intro x H locs ls h hi
      exact step x H locs ls hi (fun x' H' locs' ls' h1 h2 => ih x' H' locs' ls' (by omega) h2)
  intro x H locs ls h
  exact key (μ x + 1) x H locs ls (by omega) h
end WLOOP
/-! the reference, as functions of its state -/
def hmL (up : Nat → Bool) (n : Nat) : Nat → Nat → Int32 → Int32 → Int32
  | 0, _, b, _ => b
  | f + 1, k, b, t => if up k = true ∧ ¬ nI ((7 * n + 5 * k) % 11) ≤ t then hmL up n f (k + 1) (nI k) (nI ((7 * n + 5 * k) % 11)) else hmL up n f (k + 1) b t
def hm (up : Nat → Bool) (n : Nat) : Int32 := hmL up n 4 0 (-9) (-1)
def m_up (st : MS) : Nat → Bool := fun k => decide (st.1 0 k = 0)
def m_known (st : MS) (n : Nat) : Bool := decide (¬ st.1 8 n ≤ 0 ∧ ¬ nI 50 ≤ st.2.1 - st.1 9 n)
def m_keptL (st : MS) (n : Nat) : Nat → Nat → Int32
  | 0, _ => -9
  | f + 1, i => if st.1 10 (8 * i + 7) = st.1 8 n then nI i else m_keptL st n f (i + 1)
def m_keptAt (st : MS) (n : Nat) : Int32 := m_keptL st n st.2.2.2 0
def m_wmL (st : MS) : Nat → Nat → Int32 → Int32
  | 0, _, v => v
  | f + 1, i, v => m_wmL st f (i + 1) (if st.1 2 i = -9 then v + nI 0 else v + nI 1)
def m_wm (st : MS) : Int32 := m_wmL st 100 0 (nI 0)
def m_inc (st : MS) (k i : Nat) : MS := mset st k i (st.1 k i + nI 1)
def m_fair (st : MS) (sh : Nat) : Int32 × MS :=
  let s1 := m_inc (mtr st (st.2.2.1 + 1)) 11 (7 * sh + 5)
  if s1.1 1 0 ≤ s1.1 11 (7 * sh + 5) then (s1.1 1 0, mset s1 11 (7 * sh + 5) (nI 0)) else (nI 0, s1)
def m_long (st : MS) (sh : Nat) (size : Int32) : Int32 × MS :=
  let s1 := mtr st (st.2.2.1 + 10)
  if size < s1.1 1 1 then m_fair s1 sh else (nI 1, s1)
def m_rare (st : MS) (sh : Nat) (size : Int32) : Int32 × MS :=
  let s1 := mtr st (st.2.2.1 + 100)
  if s1.1 1 2 ≤ s1.1 11 (7 * sh) then m_long s1 sh size else (nI 1, s1)
def m_weight (st : MS) (sh : Nat) (size : Int32) (torn : Bool) : Int32 × MS :=
  if torn = true then
    let s1 := mtr st (st.2.2.1 + 1000)
    if s1.1 1 3 = 0 then (nI 0, m_inc s1 11 (7 * sh + 4)) else m_rare s1 sh size
  else m_rare st sh size
section MC1
variable (l : Launch) {D : va_G} {g : Nat → Nat} {K : Nat → ClassId}
theorem mc_in (st : MS) (a b c : Int32) : kM l yX2_in cX2_in 3 (some .boolean) 0 0 0 0 D (mty K) (mw g K) [.int a, .int b, .int c] st (fun v u => v = some (.int (bI (inR a b c))) ∧ u = st) := by
  refine kM_intro (by decide) (Nat.le_of_ble_eq_true rfl) ?_
  intro p e s m below meth c' A ls F hA hI hl
  obtain ⟨hx, hb, hr, hml, hown, hts, hlk, hK, hnm⟩ := id F
  have hl : lv_has ls 3 [(0, .int a), (1, .int b), (2, .int c)] := hl
  refine lv_iload_n hx hb dX2_in_0 rfl (lv_at hl 0 rfl) ?_
  refine lv_iload_n hx hb dX2_in_1 rfl (lv_at hl 1 rfl) ?_
  refine lv_icmp_lt (tgt := 14) hx hb dX2_in_2 (by decide) (fun c2 => ?_) (fun c2 => ?_)
  ·
    refine lv_iconst (v := nI 0) hx hb dX2_in_14 (by decide) ?_
    exact kret_z F hI dX2_in_15 (by decide) (⟨by simp [inR, bI, c2], rfl⟩)
  ·
    refine lv_iload_n hx hb dX2_in_5 rfl (lv_at hl 0 rfl) ?_
    refine lv_iload_n hx hb dX2_in_6 rfl (lv_at hl 2 rfl) ?_
    refine lv_icmp_gt (tgt := 14) hx hb dX2_in_7 (by decide) (fun c7 => ?_) (fun c7 => ?_)
    ·
      refine lv_iconst (v := nI 0) hx hb dX2_in_14 (by decide) ?_
      exact kret_z F hI dX2_in_15 (by decide) (⟨by simp [inR, bI, c2, c7], rfl⟩)
    ·
      refine lv_iconst (v := nI 1) hx hb dX2_in_10 (by decide) ?_
      refine lv_goto (tgt := 15) hx hb dX2_in_11 (by decide) ?_
      exact kret_z F hI dX2_in_15 (by decide) (⟨by simp [inR, bI, c2, c7], rfl⟩)
theorem mc_homeOf (st : MS) (n : Nat) (hn : n < 100) : kM l yX2_homeOf cX2_homeOf 6 (some .int) 0 0 0 0 D (mty K) (mw g K) [.ref (g 0), .int (nI n)] st (fun v u => v = some (.int (hm (m_up st) n)) ∧ u = st) := by
  refine kM_intro (by decide) (Nat.le_of_ble_eq_true rfl) ?_
  intro p e s m below meth c A ls F hA hI hl
  obtain ⟨hx, hb, hr, hml, hown, hts, hlk, hK, hnm⟩ := id F
  have hl : lv_has ls 6 [(0, .ref (g 0)), (1, .int (nI n))] := hl
  refine lv_bipush (v := -9) hx hb dX2_homeOf_0 (by decide) ?_
  refine lv_istore_n (lv' := [(2, .int _), (0, .ref _), (1, .int _)]) hx hb dX2_homeOf_2 rfl hl (by decide) rfl (fun ls hl => ?_)
  refine lv_iconst (v := -1) hx hb dX2_homeOf_3 (by decide) ?_
  refine lv_istore_n (lv' := [(3, .int _), (2, .int _), (0, .ref _), (1, .int _)]) hx hb dX2_homeOf_4 rfl hl (by decide) rfl (fun ls hl => ?_)
  refine lv_iconst (v := nI 0) hx hb dX2_homeOf_5 (by decide) ?_
  refine lv_istore (lv' := [(4, .int _), (3, .int _), (2, .int _), (0, .ref _), (1, .int _)]) hx hb dX2_homeOf_6 hl (by decide) rfl (fun ls hl => ?_)
  refine wloop (σ := Nat × Nat × Int32 × Int32) (fun x => x.1) (fun x H locs ls => x.2.1 + x.1 = 4 ∧ hmL (m_up st) n x.1 x.2.1 x.2.2.1 x.2.2.2 = hm (m_up st) n ∧ kI D (mw g K) A s.heap st H locs ∧ lv_has ls 6 [(4, .int (nI x.2.1)), (3, .int x.2.2.2), (2, .int x.2.2.1), (0, .ref (g 0)), (1, .int (nI n))]) ?_ (4, 0, -9, -1) _ _ _ ⟨rfl, rfl, hI, lv_sub hl [0, 1, 2, 3, 4] rfl⟩
  rintro ⟨f, k, b, t⟩ H locs ls ⟨hk, he, hI, hl⟩ ih
  dsimp only at hk he hI hl ih
  refine lv_iload hx hb dX2_homeOf_8 (lv_at hl 0 rfl) ?_
  refine lv_iconst (v := nI 4) hx hb dX2_homeOf_10 (by decide) ?_
  refine lv_icmp_ge (tgt := 56) hx hb dX2_homeOf_11 (by decide) (fun c11 => ?_) (fun c11 => ?_)
  ·
    rw [nI_leI (by omega) (by omega)] at c11
    obtain rfl : f = 0 := by omega
    refine lv_iload_n hx hb dX2_homeOf_56 rfl (lv_at hl 2 rfl) ?_
    exact kret_i F hI dX2_homeOf_57 (⟨by rw [← he]; rfl, rfl⟩)
  ·
    rw [nI_leI (by omega) (by omega)] at c11
    obtain ⟨f, rfl⟩ : ∃ f', f = f' + 1 := ⟨f - 1, by omega⟩
    refine lv_bipush (v := nI 7) hx hb dX2_homeOf_14 (by decide) ?_
    refine lv_iload_n hx hb dX2_homeOf_16 rfl (lv_at hl 4 rfl) ?_
    refine lv_imul hx hb dX2_homeOf_17 ?_
    refine ktop (y := nI (7 * n)) (pk_mul _ _) ?_
    refine lv_iconst (v := nI 5) hx hb dX2_homeOf_18 (by decide) ?_
    refine lv_iload hx hb dX2_homeOf_19 (lv_at hl 0 rfl) ?_
    refine lv_imul hx hb dX2_homeOf_21 ?_
    refine ktop (y := nI (5 * k)) (pk_mul _ _) ?_
    refine lv_iadd hx hb dX2_homeOf_22 ?_
    refine ktop (y := nI ((7 * n) + (5 * k))) (nI_add _ _) ?_
    refine lv_bipush (v := nI 11) hx hb dX2_homeOf_23 (by decide) ?_
    refine lv_irem hx hb dX2_homeOf_25 (by decide) ?_
    refine ktop (y := nI ((7 * n + 5 * k) % 11)) (by exact pk_rem (by omega) (by omega) (by omega)) ?_
    refine lv_istore (lv' := [(5, .int _), (4, .int _), (3, .int _), (2, .int _), (0, .ref _), (1, .int _)]) hx hb dX2_homeOf_26 hl (by decide) rfl (fun ls hl => ?_)
    refine lv_aload_n hx hb dX2_homeOf_28 rfl (lv_at hl 4 rfl) ?_
    refine m_get F hI 3 (by decide) rfl flX2_7 dX2_homeOf_29 ?_
    refine lv_iload hx hb dX2_homeOf_32 (lv_at hl 1 rfl) ?_
    refine m_zald F hI  0 (show k < 4 by omega) rfl dX2_homeOf_34 ?_
    refine lv_if_ne (tgt := 50) hx hb dX2_homeOf_35 (by decide) (fun c35 => ?_) (fun c35 => ?_)
    ·
      refine lv_iinc (v := nI (k + 1)) (lv' := [(4, .int _), (5, .int _), (3, .int _), (2, .int _), (0, .ref _), (1, .int _)]) hx hb dX2_homeOf_50 hl (k := 1) rfl (kinc _ 1) (by decide) rfl (fun ls hl => ?_)
      refine lv_goto (tgt := 8) hx hb dX2_homeOf_53 (by decide) ?_
      exact ih (f, k + 1, b, t) _ _ _ (by show f < f + 1; omega) ⟨by show k + 1 + f = 4; omega, by rw [← he]; simp [hmL, m_up, c35], hI, lv_sub hl [0, 2, 3, 4, 5] rfl⟩
    ·
      refine lv_iload hx hb dX2_homeOf_38 (lv_at hl 0 rfl) ?_
      refine lv_iload_n hx hb dX2_homeOf_40 rfl (lv_at hl 2 rfl) ?_
      refine lv_icmp_le (tgt := 50) hx hb dX2_homeOf_41 (by decide) (fun c41 => ?_) (fun c41 => ?_)
      ·
        refine lv_iinc (v := nI (k + 1)) (lv' := [(4, .int _), (5, .int _), (3, .int _), (2, .int _), (0, .ref _), (1, .int _)]) hx hb dX2_homeOf_50 hl (k := 1) rfl (kinc _ 1) (by decide) rfl (fun ls hl => ?_)
        refine lv_goto (tgt := 8) hx hb dX2_homeOf_53 (by decide) ?_
        exact ih (f, k + 1, b, t) _ _ _ (by show f < f + 1; omega) ⟨by show k + 1 + f = 4; omega, by rw [← he]; simp [hmL, m_up, c35, c41], hI, lv_sub hl [0, 2, 3, 4, 5] rfl⟩
      ·
        refine lv_iload hx hb dX2_homeOf_44 (lv_at hl 1 rfl) ?_
        refine lv_istore_n (lv' := [(2, .int _), (5, .int _), (4, .int _), (3, .int _), (0, .ref _), (1, .int _)]) hx hb dX2_homeOf_46 rfl hl (by decide) rfl (fun ls hl => ?_)
        refine lv_iload hx hb dX2_homeOf_47 (lv_at hl 1 rfl) ?_
        refine lv_istore_n (lv' := [(3, .int _), (2, .int _), (5, .int _), (4, .int _), (0, .ref _), (1, .int _)]) hx hb dX2_homeOf_49 rfl hl (by decide) rfl (fun ls hl => ?_)
        refine lv_iinc (v := nI (k + 1)) (lv' := [(4, .int _), (3, .int _), (2, .int _), (5, .int _), (0, .ref _), (1, .int _)]) hx hb dX2_homeOf_50 hl (k := 3) rfl (kinc _ 1) (by decide) rfl (fun ls hl => ?_)
        refine lv_goto (tgt := 8) hx hb dX2_homeOf_53 (by decide) ?_
        exact ih (f, k + 1, nI k, nI ((7 * n + 5 * k) % 11)) _ _ _ (by show f < f + 1; omega) ⟨by show k + 1 + f = 4; omega, by rw [← he]; simp [hmL, m_up, c35, c41], hI, lv_sub hl [0, 1, 2, 4, 5] rfl⟩
theorem mc_known (st : MS) (n : Nat) (hn : n < 100) : kM l yX2_isKnown cX2_isKnown 2 (some .boolean) 0 0 0 0 D (mty K) (mw g K) [.ref (g 0), .int (nI n)] st (fun v u => v = some (.int (bI (m_known st n))) ∧ u = st) := by
  refine kM_intro (by decide) (Nat.le_of_ble_eq_true rfl) ?_
  intro p e s m below meth c A ls F hA hI hl
  obtain ⟨hx, hb, hr, hml, hown, hts, hlk, hK, hnm⟩ := id F
  have hl : lv_has ls 2 [(0, .ref (g 0)), (1, .int (nI n))] := hl
  refine lv_aload_n hx hb dX2_isKnown_0 rfl (lv_at hl 0 rfl) ?_
  refine m_get F hI 11 (by decide) rfl flX2_35 dX2_isKnown_1 ?_
  refine lv_iload_n hx hb dX2_isKnown_4 rfl (lv_at hl 1 rfl) ?_
  refine m_ald F hI  8 (show n < 100 by omega) rfl dX2_isKnown_5 ?_
  refine lv_if_le (tgt := 29) hx hb dX2_isKnown_6 (by decide) (fun c6 => ?_) (fun c6 => ?_)
  ·
    refine lv_iconst (v := nI 0) hx hb dX2_isKnown_29 (by decide) ?_
    exact kret_z F hI dX2_isKnown_30 (by decide) (⟨by simp [m_known, bI, c6], rfl⟩)
  ·
    refine lv_aload_n hx hb dX2_isKnown_9 rfl (lv_at hl 0 rfl) ?_
    refine m_get F hI 1 (by decide) rfl flX2_79 dX2_isKnown_10 ?_
    refine lv_aload_n hx hb dX2_isKnown_13 rfl (lv_at hl 0 rfl) ?_
    refine m_get F hI 12 (by decide) rfl flX2_38 dX2_isKnown_14 ?_
    refine lv_iload_n hx hb dX2_isKnown_17 rfl (lv_at hl 1 rfl) ?_
    refine m_ald F hI  9 (show n < 100 by omega) rfl dX2_isKnown_18 ?_
    refine lv_isub hx hb dX2_isKnown_19 ?_
    refine lv_bipush (v := nI 50) hx hb dX2_isKnown_20 (by decide) ?_
    refine lv_icmp_ge (tgt := 29) hx hb dX2_isKnown_22 (by decide) (fun c22 => ?_) (fun c22 => ?_)
    ·
      refine lv_iconst (v := nI 0) hx hb dX2_isKnown_29 (by decide) ?_
      exact kret_z F hI dX2_isKnown_30 (by decide) (⟨by simp [m_known, bI, c6, c22], rfl⟩)
    ·
      refine lv_iconst (v := nI 1) hx hb dX2_isKnown_25 (by decide) ?_
      refine lv_goto (tgt := 30) hx hb dX2_isKnown_26 (by decide) ?_
      exact kret_z F hI dX2_isKnown_30 (by decide) (⟨by simp [m_known, bI, c6, c22], rfl⟩)
theorem mc_keptAt (st : MS) (n : Nat) (hn : n < 100) (hkm : st.2.2.2 ≤ 20) : kM l yX2_keptAt cX2_keptAt 3 (some .int) 0 0 0 0 D (mty K) (mw g K) [.ref (g 0), .int (nI n)] st (fun v u => v = some (.int (m_keptAt st n)) ∧ u = st) := by
  refine kM_intro (by decide) (Nat.le_of_ble_eq_true rfl) ?_
  intro p e s m below meth c A ls F hA hI hl
  obtain ⟨hx, hb, hr, hml, hown, hts, hlk, hK, hnm⟩ := id F
  have hl : lv_has ls 3 [(0, .ref (g 0)), (1, .int (nI n))] := hl
  refine lv_iconst (v := nI 0) hx hb dX2_keptAt_0 (by decide) ?_
  refine lv_istore_n (lv' := [(2, .int _), (0, .ref _), (1, .int _)]) hx hb dX2_keptAt_1 rfl hl (by decide) rfl (fun ls hl => ?_)
  refine wloop (σ := Nat × Nat) (fun x => x.1) (fun x H locs ls => x.2 + x.1 = st.2.2.2 ∧ m_keptL st n x.1 x.2 = m_keptAt st n ∧ kI D (mw g K) A s.heap st H locs ∧ lv_has ls 3 [(2, .int (nI x.2)), (0, .ref (g 0)), (1, .int (nI n))]) ?_ (st.2.2.2, 0) _ _ _ ⟨Nat.zero_add _, rfl, hI, lv_sub hl [0, 1, 2] rfl⟩
  rintro ⟨f, i⟩ H locs ls ⟨hk, he, hI, hl⟩ ih
  dsimp only at hk he hI hl ih
  refine lv_iload_n hx hb dX2_keptAt_2 rfl (lv_at hl 0 rfl) ?_
  refine lv_aload_n hx hb dX2_keptAt_3 rfl (lv_at hl 1 rfl) ?_
  refine m_get F hI 14 (by decide) rfl flX2_82 dX2_keptAt_4 ?_
  refine lv_icmp_ge (tgt := 39) hx hb dX2_keptAt_7 (by decide) (fun c7 => ?_) (fun c7 => ?_)
  ·
    rw [nI_leI (by omega) (by omega)] at c7
    obtain rfl : f = 0 := by omega
    refine lv_bipush (v := -9) hx hb dX2_keptAt_39 (by decide) ?_
    exact kret_i F hI dX2_keptAt_41 (⟨by rw [← he]; rfl, rfl⟩)
  ·
    rw [nI_leI (by omega) (by omega)] at c7
    obtain ⟨f, rfl⟩ : ∃ f', f = f' + 1 := ⟨f - 1, by omega⟩
    refine lv_aload_n hx hb dX2_keptAt_10 rfl (lv_at hl 1 rfl) ?_
    refine m_get F hI 13 (by decide) rfl flX2_41 dX2_keptAt_11 ?_
    refine lv_bipush (v := nI 8) hx hb dX2_keptAt_14 (by decide) ?_
    refine lv_iload_n hx hb dX2_keptAt_16 rfl (lv_at hl 0 rfl) ?_
    refine lv_imul hx hb dX2_keptAt_17 ?_
    refine ktop (y := nI (8 * i)) (pk_mul _ _) ?_
    refine lv_bipush (v := nI 7) hx hb dX2_keptAt_18 (by decide) ?_
    refine lv_iadd hx hb dX2_keptAt_20 ?_
    refine ktop (y := nI ((8 * i) + 7)) (nI_add _ _) ?_
    refine m_ald F hI  10 (show ((8 * i) + 7) < 160 by omega) rfl dX2_keptAt_21 ?_
    refine lv_aload_n hx hb dX2_keptAt_22 rfl (lv_at hl 1 rfl) ?_
    refine m_get F hI 11 (by decide) rfl flX2_35 dX2_keptAt_23 ?_
    refine lv_iload_n hx hb dX2_keptAt_26 rfl (lv_at hl 2 rfl) ?_
    refine m_ald F hI  8 (show n < 100 by omega) rfl dX2_keptAt_27 ?_
    refine lv_icmp_ne (tgt := 33) hx hb dX2_keptAt_28 (by decide) (fun c28 => ?_) (fun c28 => ?_)
    ·
      refine lv_iinc (v := nI (i + 1)) (lv' := [(2, .int _), (0, .ref _), (1, .int _)]) hx hb dX2_keptAt_33 hl (k := 0) rfl (kinc _ 1) (by decide) rfl (fun ls hl => ?_)
      refine lv_goto (tgt := 2) hx hb dX2_keptAt_36 (by decide) ?_
      exact ih (f, i + 1) _ _ _ (by show f < f + 1; omega) ⟨by show i + 1 + f = _; omega, by rw [← he]; simp [m_keptL, c28], hI, lv_sub hl [0, 1, 2] rfl⟩
    ·
      refine lv_iload_n hx hb dX2_keptAt_31 rfl (lv_at hl 0 rfl) ?_
      exact kret_i F hI dX2_keptAt_32 (⟨by rw [← he]; simp [m_keptL, c28], rfl⟩)
theorem mc_waitingMany (st : MS) : kM l yX2_waitingMany cX2_waitingMany 3 (some .int) 0 0 0 0 D (mty K) (mw g K) [.ref (g 0)] st (fun v u => v = some (.int (m_wm st)) ∧ u = st) := by
  refine kM_intro (by decide) (Nat.le_of_ble_eq_true rfl) ?_
  intro p e s m below meth c A ls F hA hI hl
  obtain ⟨hx, hb, hr, hml, hown, hts, hlk, hK, hnm⟩ := id F
  have hl : lv_has ls 3 [(0, .ref (g 0))] := hl
  refine lv_iconst (v := nI 0) hx hb dX2_waitingMany_0 (by decide) ?_
  refine lv_istore_n (lv' := [(1, .int _), (0, .ref _)]) hx hb dX2_waitingMany_1 rfl hl (by decide) rfl (fun ls hl => ?_)
  refine lv_iconst (v := nI 0) hx hb dX2_waitingMany_2 (by decide) ?_
  refine lv_istore_n (lv' := [(2, .int _), (1, .int _), (0, .ref _)]) hx hb dX2_waitingMany_3 rfl hl (by decide) rfl (fun ls hl => ?_)
  refine wloop (σ := Nat × Nat × Int32) (fun x => x.1) (fun x H locs ls => x.2.1 + x.1 = 100 ∧ m_wmL st x.1 x.2.1 x.2.2 = m_wm st ∧ kI D (mw g K) A s.heap st H locs ∧ lv_has ls 3 [(2, .int (nI x.2.1)), (1, .int x.2.2), (0, .ref (g 0))]) ?_ (100, 0, nI 0) _ _ _ ⟨rfl, rfl, hI, lv_sub hl [0, 1, 2] rfl⟩
  rintro ⟨f, i, v⟩ H locs ls ⟨hk, he, hI, hl⟩ ih
  dsimp only at hk he hI hl ih
  refine lv_iload_n hx hb dX2_waitingMany_4 rfl (lv_at hl 0 rfl) ?_
  refine lv_bipush (v := nI 100) hx hb dX2_waitingMany_5 (by decide) ?_
  refine lv_icmp_ge (tgt := 35) hx hb dX2_waitingMany_7 (by decide) (fun c7 => ?_) (fun c7 => ?_)
  ·
    rw [nI_leI (by omega) (by omega)] at c7
    obtain rfl : f = 0 := by omega
    refine lv_iload_n hx hb dX2_waitingMany_35 rfl (lv_at hl 1 rfl) ?_
    exact kret_i F hI dX2_waitingMany_36 (⟨by rw [← he]; rfl, rfl⟩)
  ·
    rw [nI_leI (by omega) (by omega)] at c7
    obtain ⟨f, rfl⟩ : ∃ f', f = f' + 1 := ⟨f - 1, by omega⟩
    refine lv_iload_n hx hb dX2_waitingMany_10 rfl (lv_at hl 1 rfl) ?_
    refine lv_aload_n hx hb dX2_waitingMany_11 rfl (lv_at hl 2 rfl) ?_
    refine m_get F hI 5 (by decide) rfl flX2_17 dX2_waitingMany_12 ?_
    refine lv_iload_n hx hb dX2_waitingMany_15 rfl (lv_at hl 0 rfl) ?_
    refine m_ald F hI  2 (show i < 100 by omega) rfl dX2_waitingMany_16 ?_
    refine lv_bipush (v := -9) hx hb dX2_waitingMany_17 (by decide) ?_
    refine lv_icmp_ne (tgt := 26) hx hb dX2_waitingMany_19 (by decide) (fun c19 => ?_) (fun c19 => ?_)
    ·
      refine lv_iconst (v := nI 1) hx hb dX2_waitingMany_26 (by decide) ?_
      refine lv_iadd hx hb dX2_waitingMany_27 ?_
      refine lv_istore_n (lv' := [(1, .int _), (2, .int _), (0, .ref _)]) hx hb dX2_waitingMany_28 rfl hl (by decide) rfl (fun ls hl => ?_)
      refine lv_iinc (v := nI (i + 1)) (lv' := [(2, .int _), (1, .int _), (0, .ref _)]) hx hb dX2_waitingMany_29 hl (k := 1) rfl (kinc _ 1) (by decide) rfl (fun ls hl => ?_)
      refine lv_goto (tgt := 4) hx hb dX2_waitingMany_32 (by decide) ?_
      exact ih (f, i + 1, _) _ _ _ (by show f < f + 1; omega) ⟨by show i + 1 + f = _; omega, by rw [← he]; simp [m_wmL, c19], hI, lv_sub hl [0, 1, 2] rfl⟩
    ·
      refine lv_iconst (v := nI 0) hx hb dX2_waitingMany_22 (by decide) ?_
      refine lv_goto (tgt := 27) hx hb dX2_waitingMany_23 (by decide) ?_
      refine lv_iadd hx hb dX2_waitingMany_27 ?_
      refine lv_istore_n (lv' := [(1, .int _), (2, .int _), (0, .ref _)]) hx hb dX2_waitingMany_28 rfl hl (by decide) rfl (fun ls hl => ?_)
      refine lv_iinc (v := nI (i + 1)) (lv' := [(2, .int _), (1, .int _), (0, .ref _)]) hx hb dX2_waitingMany_29 hl (k := 1) rfl (kinc _ 1) (by decide) rfl (fun ls hl => ?_)
      refine lv_goto (tgt := 4) hx hb dX2_waitingMany_32 (by decide) ?_
      exact ih (f, i + 1, _) _ _ _ (by show f < f + 1; omega) ⟨by show i + 1 + f = _; omega, by rw [← he]; simp [m_wmL, c19], hI, lv_sub hl [0, 1, 2] rfl⟩
theorem mc_weightOf (st : MS) (sh : Nat) (hs : sh < 5) (z : Int32) (tn : Bool) : kM l yX2_weightOf cX2_weightOf 4 (some .int) 0 0 0 0 D (mty K) (mw g K) [.ref (g 0), .int (nI sh), .int z, .int (bI tn)] st (fun v u => v = some (.int (m_weight st sh z tn).1) ∧ u = (m_weight st sh z tn).2) := by
  refine kM_intro (by decide) (Nat.le_of_ble_eq_true rfl) ?_
  intro p e s m below meth c A ls F hA hI hl
  obtain ⟨hx, hb, hr, hml, hown, hts, hlk, hK, hnm⟩ := id F
  have hl : lv_has ls 4 [(0, .ref (g 0)), (1, .int (nI sh)), (2, .int z), (3, .int (bI tn))] := hl
  cases tn
  · have hl := hl
    refine lv_iload_n hx hb dX2_weightOf_0 rfl (lv_at hl 3 rfl) ?_
    refine lv_if_eq (tgt := 42) hx hb dX2_weightOf_1 (by decide) (fun c1 => ?_) (fun c1 => absurd c1 ((fun h => h rfl)))
    refine lv_aload_n hx hb dX2_weightOf_42 rfl (lv_at hl 0 rfl) ?_
    refine lv_dup hx hb dX2_weightOf_43 rfl ?_
    refine m_get F hI 2 (by decide) rfl flX2_65 dX2_weightOf_44 ?_
    refine lv_ldc2 (v := 100) hx hb hown (hts _ clX2_71) dX2_weightOf_47 ?_
    refine lv_ladd hx hb dX2_weightOf_50 ?_
    refine m_putTr F hI flX2_65 dX2_weightOf_51 (fun H locs hI => ?_)
    refine lv_aload_n hx hb dX2_weightOf_54 rfl (lv_at hl 0 rfl) ?_
    refine m_get F hI 15 (by decide) rfl flX2_44 dX2_weightOf_55 ?_
    refine lv_bipush (v := nI 7) hx hb dX2_weightOf_58 (by decide) ?_
    refine lv_iload_n hx hb dX2_weightOf_60 rfl (lv_at hl 1 rfl) ?_
    refine lv_imul hx hb dX2_weightOf_61 ?_
    refine ktop (y := nI (7 * sh)) (pk_mul _ _) ?_
    refine m_ald F hI  11 (show (7 * sh) < 35 by omega) rfl dX2_weightOf_62 ?_
    refine lv_aload_n hx hb dX2_weightOf_63 rfl (lv_at hl 0 rfl) ?_
    refine m_get F hI 4 (by decide) rfl flX2_13 dX2_weightOf_64 ?_
    refine lv_iconst (v := nI 2) hx hb dX2_weightOf_67 (by decide) ?_
    refine m_ald F hI  1 (show 2 < 6 by omega) rfl dX2_weightOf_68 ?_
    refine lv_icmp_ge (tgt := 74) hx hb dX2_weightOf_69 (by decide) (fun c69 => ?_) (fun c69 => ?_)
    ·
      refine lv_aload_n hx hb dX2_weightOf_74 rfl (lv_at hl 0 rfl) ?_
      refine lv_dup hx hb dX2_weightOf_75 rfl ?_
      refine m_get F hI 2 (by decide) rfl flX2_65 dX2_weightOf_76 ?_
      refine lv_ldc2 (v := 10) hx hb hown (hts _ clX2_73) dX2_weightOf_79 ?_
      refine lv_ladd hx hb dX2_weightOf_82 ?_
      refine m_putTr F hI flX2_65 dX2_weightOf_83 (fun H locs hI => ?_)
      refine lv_iload_n hx hb dX2_weightOf_86 rfl (lv_at hl 2 rfl) ?_
      refine lv_aload_n hx hb dX2_weightOf_87 rfl (lv_at hl 0 rfl) ?_
      refine m_get F hI 4 (by decide) rfl flX2_13 dX2_weightOf_88 ?_
      refine lv_iconst (v := nI 1) hx hb dX2_weightOf_91 (by decide) ?_
      refine m_ald F hI  1 (show 1 < 6 by omega) rfl dX2_weightOf_92 ?_
      refine lv_icmp_lt (tgt := 98) hx hb dX2_weightOf_93 (by decide) (fun c93 => ?_) (fun c93 => ?_)
      ·
        refine lv_aload_n hx hb dX2_weightOf_98 rfl (lv_at hl 0 rfl) ?_
        refine lv_dup hx hb dX2_weightOf_99 rfl ?_
        refine m_get F hI 2 (by decide) rfl flX2_65 dX2_weightOf_100 ?_
        refine lv_lconst (v := 1) hx hb dX2_weightOf_103 (by decide) ?_
        refine lv_ladd hx hb dX2_weightOf_104 ?_
        refine m_putTr F hI flX2_65 dX2_weightOf_105 (fun H locs hI => ?_)
        refine lv_aload_n hx hb dX2_weightOf_108 rfl (lv_at hl 0 rfl) ?_
        refine m_get F hI 15 (by decide) rfl flX2_44 dX2_weightOf_109 ?_
        refine lv_bipush (v := nI 7) hx hb dX2_weightOf_112 (by decide) ?_
        refine lv_iload_n hx hb dX2_weightOf_114 rfl (lv_at hl 1 rfl) ?_
        refine lv_imul hx hb dX2_weightOf_115 ?_
        refine ktop (y := nI (7 * sh)) (pk_mul _ _) ?_
        refine lv_iconst (v := nI 5) hx hb dX2_weightOf_116 (by decide) ?_
        refine lv_iadd hx hb dX2_weightOf_117 ?_
        refine ktop (y := nI ((7 * sh) + 5)) (nI_add _ _) ?_
        refine lv_dup2_11 hx hb dX2_weightOf_118 rfl rfl ?_
        refine m_ald F hI  11 (show ((7 * sh) + 5) < 35 by omega) rfl dX2_weightOf_119 ?_
        refine lv_iconst (v := nI 1) hx hb dX2_weightOf_120 (by decide) ?_
        refine lv_iadd hx hb dX2_weightOf_121 ?_
        refine m_ast F hI 11 (show ((7 * sh) + 5) < 35 by omega) rfl dX2_weightOf_122 (fun H locs hI => ?_)
        refine lv_aload_n hx hb dX2_weightOf_123 rfl (lv_at hl 0 rfl) ?_
        refine m_get F hI 15 (by decide) rfl flX2_44 dX2_weightOf_124 ?_
        refine lv_bipush (v := nI 7) hx hb dX2_weightOf_127 (by decide) ?_
        refine lv_iload_n hx hb dX2_weightOf_129 rfl (lv_at hl 1 rfl) ?_
        refine lv_imul hx hb dX2_weightOf_130 ?_
        refine ktop (y := nI (7 * sh)) (pk_mul _ _) ?_
        refine lv_iconst (v := nI 5) hx hb dX2_weightOf_131 (by decide) ?_
        refine lv_iadd hx hb dX2_weightOf_132 ?_
        refine ktop (y := nI ((7 * sh) + 5)) (nI_add _ _) ?_
        refine m_ald F hI  11 (show ((7 * sh) + 5) < 35 by omega) rfl dX2_weightOf_133 ?_
        refine lv_aload_n hx hb dX2_weightOf_134 rfl (lv_at hl 0 rfl) ?_
        refine m_get F hI 4 (by decide) rfl flX2_13 dX2_weightOf_135 ?_
        refine lv_iconst (v := nI 0) hx hb dX2_weightOf_138 (by decide) ?_
        refine m_ald F hI  1 (show 0 < 6 by omega) rfl dX2_weightOf_139 ?_
        refine lv_icmp_ge (tgt := 145) hx hb dX2_weightOf_140 (by decide) (fun c140 => ?_) (fun c140 => ?_)
        ·
          refine lv_aload_n hx hb dX2_weightOf_145 rfl (lv_at hl 0 rfl) ?_
          refine m_get F hI 15 (by decide) rfl flX2_44 dX2_weightOf_146 ?_
          refine lv_bipush (v := nI 7) hx hb dX2_weightOf_149 (by decide) ?_
          refine lv_iload_n hx hb dX2_weightOf_151 rfl (lv_at hl 1 rfl) ?_
          refine lv_imul hx hb dX2_weightOf_152 ?_
          refine ktop (y := nI (7 * sh)) (pk_mul _ _) ?_
          refine lv_iconst (v := nI 5) hx hb dX2_weightOf_153 (by decide) ?_
          refine lv_iadd hx hb dX2_weightOf_154 ?_
          refine ktop (y := nI ((7 * sh) + 5)) (nI_add _ _) ?_
          refine lv_iconst (v := nI 0) hx hb dX2_weightOf_155 (by decide) ?_
          refine m_ast F hI 11 (show ((7 * sh) + 5) < 35 by omega) rfl dX2_weightOf_156 (fun H locs hI => ?_)
          refine lv_aload_n hx hb dX2_weightOf_157 rfl (lv_at hl 0 rfl) ?_
          refine m_get F hI 4 (by decide) rfl flX2_13 dX2_weightOf_158 ?_
          refine lv_iconst (v := nI 0) hx hb dX2_weightOf_161 (by decide) ?_
          refine m_ald F hI  1 (show 0 < 6 by omega) rfl dX2_weightOf_162 ?_
          exact kret_i F hI dX2_weightOf_163 (⟨by simp [m_weight, m_rare, m_long, m_fair, m_inc, c69, c93, c140]; rfl, by simp [m_weight, m_rare, m_long, m_fair, m_inc, c69, c93, c140]⟩)
        ·
          refine lv_iconst (v := nI 0) hx hb dX2_weightOf_143 (by decide) ?_
          exact kret_i F hI dX2_weightOf_144 (⟨by simp [m_weight, m_rare, m_long, m_fair, m_inc, c69, c93, c140], by simp [m_weight, m_rare, m_long, m_fair, m_inc, c69, c93, c140]⟩)
      ·
        refine lv_iconst (v := nI 1) hx hb dX2_weightOf_96 (by decide) ?_
        exact kret_i F hI dX2_weightOf_97 (⟨by simp [m_weight, m_rare, m_long, c69, c93], by simp [m_weight, m_rare, m_long, c69, c93]⟩)
    ·
      refine lv_iconst (v := nI 1) hx hb dX2_weightOf_72 (by decide) ?_
      exact kret_i F hI dX2_weightOf_73 (⟨by simp [m_weight, m_rare, c69], by simp [m_weight, m_rare, c69]⟩)
  · have hl := hl
    refine lv_iload_n hx hb dX2_weightOf_0 rfl (lv_at hl 3 rfl) ?_
    refine lv_if_eq (tgt := 42) hx hb dX2_weightOf_1 (by decide) (fun c1 => absurd c1 ((by decide))) (fun c1 => ?_)
    refine lv_aload_n hx hb dX2_weightOf_4 rfl (lv_at hl 0 rfl) ?_
    refine lv_dup hx hb dX2_weightOf_5 rfl ?_
    refine m_get F hI 2 (by decide) rfl flX2_65 dX2_weightOf_6 ?_
    refine lv_ldc2 (v := 1000) hx hb hown (hts _ clX2_69) dX2_weightOf_9 ?_
    refine lv_ladd hx hb dX2_weightOf_12 ?_
    refine m_putTr F hI flX2_65 dX2_weightOf_13 (fun H locs hI => ?_)
    refine lv_aload_n hx hb dX2_weightOf_16 rfl (lv_at hl 0 rfl) ?_
    refine m_get F hI 4 (by decide) rfl flX2_13 dX2_weightOf_17 ?_
    refine lv_iconst (v := nI 3) hx hb dX2_weightOf_20 (by decide) ?_
    refine m_ald F hI  1 (show 3 < 6 by omega) rfl dX2_weightOf_21 ?_
    refine lv_if_ne (tgt := 42) hx hb dX2_weightOf_22 (by decide) (fun c22 => ?_) (fun c22 => ?_)
    ·
      refine lv_aload_n hx hb dX2_weightOf_42 rfl (lv_at hl 0 rfl) ?_
      refine lv_dup hx hb dX2_weightOf_43 rfl ?_
      refine m_get F hI 2 (by decide) rfl flX2_65 dX2_weightOf_44 ?_
      refine lv_ldc2 (v := 100) hx hb hown (hts _ clX2_71) dX2_weightOf_47 ?_
      refine lv_ladd hx hb dX2_weightOf_50 ?_
      refine m_putTr F hI flX2_65 dX2_weightOf_51 (fun H locs hI => ?_)
      refine lv_aload_n hx hb dX2_weightOf_54 rfl (lv_at hl 0 rfl) ?_
      refine m_get F hI 15 (by decide) rfl flX2_44 dX2_weightOf_55 ?_
      refine lv_bipush (v := nI 7) hx hb dX2_weightOf_58 (by decide) ?_
      refine lv_iload_n hx hb dX2_weightOf_60 rfl (lv_at hl 1 rfl) ?_
      refine lv_imul hx hb dX2_weightOf_61 ?_
      refine ktop (y := nI (7 * sh)) (pk_mul _ _) ?_
      refine m_ald F hI  11 (show (7 * sh) < 35 by omega) rfl dX2_weightOf_62 ?_
      refine lv_aload_n hx hb dX2_weightOf_63 rfl (lv_at hl 0 rfl) ?_
      refine m_get F hI 4 (by decide) rfl flX2_13 dX2_weightOf_64 ?_
      refine lv_iconst (v := nI 2) hx hb dX2_weightOf_67 (by decide) ?_
      refine m_ald F hI  1 (show 2 < 6 by omega) rfl dX2_weightOf_68 ?_
      refine lv_icmp_ge (tgt := 74) hx hb dX2_weightOf_69 (by decide) (fun c69 => ?_) (fun c69 => ?_)
      ·
        refine lv_aload_n hx hb dX2_weightOf_74 rfl (lv_at hl 0 rfl) ?_
        refine lv_dup hx hb dX2_weightOf_75 rfl ?_
        refine m_get F hI 2 (by decide) rfl flX2_65 dX2_weightOf_76 ?_
        refine lv_ldc2 (v := 10) hx hb hown (hts _ clX2_73) dX2_weightOf_79 ?_
        refine lv_ladd hx hb dX2_weightOf_82 ?_
        refine m_putTr F hI flX2_65 dX2_weightOf_83 (fun H locs hI => ?_)
        refine lv_iload_n hx hb dX2_weightOf_86 rfl (lv_at hl 2 rfl) ?_
        refine lv_aload_n hx hb dX2_weightOf_87 rfl (lv_at hl 0 rfl) ?_
        refine m_get F hI 4 (by decide) rfl flX2_13 dX2_weightOf_88 ?_
        refine lv_iconst (v := nI 1) hx hb dX2_weightOf_91 (by decide) ?_
        refine m_ald F hI  1 (show 1 < 6 by omega) rfl dX2_weightOf_92 ?_
        refine lv_icmp_lt (tgt := 98) hx hb dX2_weightOf_93 (by decide) (fun c93 => ?_) (fun c93 => ?_)
        ·
          refine lv_aload_n hx hb dX2_weightOf_98 rfl (lv_at hl 0 rfl) ?_
          refine lv_dup hx hb dX2_weightOf_99 rfl ?_
          refine m_get F hI 2 (by decide) rfl flX2_65 dX2_weightOf_100 ?_
          refine lv_lconst (v := 1) hx hb dX2_weightOf_103 (by decide) ?_
          refine lv_ladd hx hb dX2_weightOf_104 ?_
          refine m_putTr F hI flX2_65 dX2_weightOf_105 (fun H locs hI => ?_)
          refine lv_aload_n hx hb dX2_weightOf_108 rfl (lv_at hl 0 rfl) ?_
          refine m_get F hI 15 (by decide) rfl flX2_44 dX2_weightOf_109 ?_
          refine lv_bipush (v := nI 7) hx hb dX2_weightOf_112 (by decide) ?_
          refine lv_iload_n hx hb dX2_weightOf_114 rfl (lv_at hl 1 rfl) ?_
          refine lv_imul hx hb dX2_weightOf_115 ?_
          refine ktop (y := nI (7 * sh)) (pk_mul _ _) ?_
          refine lv_iconst (v := nI 5) hx hb dX2_weightOf_116 (by decide) ?_
          refine lv_iadd hx hb dX2_weightOf_117 ?_
          refine ktop (y := nI ((7 * sh) + 5)) (nI_add _ _) ?_
          refine lv_dup2_11 hx hb dX2_weightOf_118 rfl rfl ?_
          refine m_ald F hI  11 (show ((7 * sh) + 5) < 35 by omega) rfl dX2_weightOf_119 ?_
          refine lv_iconst (v := nI 1) hx hb dX2_weightOf_120 (by decide) ?_
          refine lv_iadd hx hb dX2_weightOf_121 ?_
          refine m_ast F hI 11 (show ((7 * sh) + 5) < 35 by omega) rfl dX2_weightOf_122 (fun H locs hI => ?_)
          refine lv_aload_n hx hb dX2_weightOf_123 rfl (lv_at hl 0 rfl) ?_
          refine m_get F hI 15 (by decide) rfl flX2_44 dX2_weightOf_124 ?_
          refine lv_bipush (v := nI 7) hx hb dX2_weightOf_127 (by decide) ?_
          refine lv_iload_n hx hb dX2_weightOf_129 rfl (lv_at hl 1 rfl) ?_
          refine lv_imul hx hb dX2_weightOf_130 ?_
          refine ktop (y := nI (7 * sh)) (pk_mul _ _) ?_
          refine lv_iconst (v := nI 5) hx hb dX2_weightOf_131 (by decide) ?_
          refine lv_iadd hx hb dX2_weightOf_132 ?_
          refine ktop (y := nI ((7 * sh) + 5)) (nI_add _ _) ?_
          refine m_ald F hI  11 (show ((7 * sh) + 5) < 35 by omega) rfl dX2_weightOf_133 ?_
          refine lv_aload_n hx hb dX2_weightOf_134 rfl (lv_at hl 0 rfl) ?_
          refine m_get F hI 4 (by decide) rfl flX2_13 dX2_weightOf_135 ?_
          refine lv_iconst (v := nI 0) hx hb dX2_weightOf_138 (by decide) ?_
          refine m_ald F hI  1 (show 0 < 6 by omega) rfl dX2_weightOf_139 ?_
          refine lv_icmp_ge (tgt := 145) hx hb dX2_weightOf_140 (by decide) (fun c140 => ?_) (fun c140 => ?_)
          ·
            refine lv_aload_n hx hb dX2_weightOf_145 rfl (lv_at hl 0 rfl) ?_
            refine m_get F hI 15 (by decide) rfl flX2_44 dX2_weightOf_146 ?_
            refine lv_bipush (v := nI 7) hx hb dX2_weightOf_149 (by decide) ?_
            refine lv_iload_n hx hb dX2_weightOf_151 rfl (lv_at hl 1 rfl) ?_
            refine lv_imul hx hb dX2_weightOf_152 ?_
            refine ktop (y := nI (7 * sh)) (pk_mul _ _) ?_
            refine lv_iconst (v := nI 5) hx hb dX2_weightOf_153 (by decide) ?_
            refine lv_iadd hx hb dX2_weightOf_154 ?_
            refine ktop (y := nI ((7 * sh) + 5)) (nI_add _ _) ?_
            refine lv_iconst (v := nI 0) hx hb dX2_weightOf_155 (by decide) ?_
            refine m_ast F hI 11 (show ((7 * sh) + 5) < 35 by omega) rfl dX2_weightOf_156 (fun H locs hI => ?_)
            refine lv_aload_n hx hb dX2_weightOf_157 rfl (lv_at hl 0 rfl) ?_
            refine m_get F hI 4 (by decide) rfl flX2_13 dX2_weightOf_158 ?_
            refine lv_iconst (v := nI 0) hx hb dX2_weightOf_161 (by decide) ?_
            refine m_ald F hI  1 (show 0 < 6 by omega) rfl dX2_weightOf_162 ?_
            exact kret_i F hI dX2_weightOf_163 (⟨by simp [m_weight, m_rare, m_long, m_fair, m_inc, c22, c69, c93, c140]; rfl, by simp [m_weight, m_rare, m_long, m_fair, m_inc, c22, c69, c93, c140]⟩)
          ·
            refine lv_iconst (v := nI 0) hx hb dX2_weightOf_143 (by decide) ?_
            exact kret_i F hI dX2_weightOf_144 (⟨by simp [m_weight, m_rare, m_long, m_fair, m_inc, c22, c69, c93, c140], by simp [m_weight, m_rare, m_long, m_fair, m_inc, c22, c69, c93, c140]⟩)
        ·
          refine lv_iconst (v := nI 1) hx hb dX2_weightOf_96 (by decide) ?_
          exact kret_i F hI dX2_weightOf_97 (⟨by simp [m_weight, m_rare, m_long, c22, c69, c93], by simp [m_weight, m_rare, m_long, c22, c69, c93]⟩)
      ·
        refine lv_iconst (v := nI 1) hx hb dX2_weightOf_72 (by decide) ?_
        exact kret_i F hI dX2_weightOf_73 (⟨by simp [m_weight, m_rare, c22, c69], by simp [m_weight, m_rare, c22, c69]⟩)
    ·
      refine lv_aload_n hx hb dX2_weightOf_25 rfl (lv_at hl 0 rfl) ?_
      refine m_get F hI 15 (by decide) rfl flX2_44 dX2_weightOf_26 ?_
      refine lv_bipush (v := nI 7) hx hb dX2_weightOf_29 (by decide) ?_
      refine lv_iload_n hx hb dX2_weightOf_31 rfl (lv_at hl 1 rfl) ?_
      refine lv_imul hx hb dX2_weightOf_32 ?_
      refine ktop (y := nI (7 * sh)) (pk_mul _ _) ?_
      refine lv_iconst (v := nI 4) hx hb dX2_weightOf_33 (by decide) ?_
      refine lv_iadd hx hb dX2_weightOf_34 ?_
      refine ktop (y := nI ((7 * sh) + 4)) (nI_add _ _) ?_
      refine lv_dup2_11 hx hb dX2_weightOf_35 rfl rfl ?_
      refine m_ald F hI  11 (show ((7 * sh) + 4) < 35 by omega) rfl dX2_weightOf_36 ?_
      refine lv_iconst (v := nI 1) hx hb dX2_weightOf_37 (by decide) ?_
      refine lv_iadd hx hb dX2_weightOf_38 ?_
      refine m_ast F hI 11 (show ((7 * sh) + 4) < 35 by omega) rfl dX2_weightOf_39 (fun H locs hI => ?_)
      refine lv_iconst (v := nI 0) hx hb dX2_weightOf_40 (by decide) ?_
      exact kret_i F hI dX2_weightOf_41 (⟨by simp [m_weight, c22], by simp [m_weight, m_inc, c22]⟩)
end MC1
