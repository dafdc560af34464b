/-! the reference: home, set, keeper, decides -/
def m_tallS (st : MS) : Nat → Nat → MS
  | 0, _ => st
  | f + 1, i => m_tallS (mset (mset st 11 (7 * i + 6) (st.1 11 (7 * i + 6) + st.1 11 (7 * i + 5))) 11 (7 * i + 5) (nI 0)) f (i + 1)
def m_setR (st : MS) (w : Nat) (v : Int32) : MS :=
  let s1 := mset st 1 w v
  if w = 0 ∧ ¬ st.1 1 w = v then m_tallS s1 5 0 else s1
def m_kp1 (st : MS) (k : Nat) (up : Bool) (n : Nat) : MS :=
  if st.1 2 n = nI k ∧ up = false then m_inc (mset st 2 n (-9)) 13 3 else st
def m_kp2 (st : MS) (n : Nat) : MS :=
  if ¬ st.1 2 n = -9 ∧ ¬ st.1 2 n = hm (m_up st) n then m_inc (mset st 2 n (hm (m_up st) n)) 13 4 else st
def m_kpL (k : Nat) (up : Bool) : Nat → Nat → MS → MS
  | 0, _, st => st
  | f + 1, n, st => m_kpL k up f (n + 1) (m_kp2 (m_kp1 st k up n) n)
def m_keeper (st : MS) (k : Nat) (up : Bool) : Int32 × MS :=
  if st.1 0 k = bI up then (nI 1, m_kpL k up 100 0 (mset st 0 k (bI (!up)))) else (nI 0, st)
def stpL (z : Nat) : Nat → Nat → Nat
  | 0, j => j
  | f + 1, j => if z < 2 ^ j then j else stpL z f (j + 1)
def stp (z : Nat) : Nat := stpL z 13 0
theorem stpL_le (z : Nat) : ∀ f j : Nat, stpL z f j ≤ j + f := by
  intro f
  induction f with
  | zero => intro j; exact Nat.le_refl _
  | succ f ih =>
    intro j
    unfold stpL
    split
    · omega
    · have := ih (j + 1)
      omega
theorem stp_lt (z : Nat) : stp z < 14 := Nat.lt_of_le_of_lt (stpL_le z 13 0) (by decide)
def mcp (st : MS) (k i k2 i2 : Nat) : MS := mset st k i (st.1 k2 i2)
def mnw (st : MS) (k i : Nat) : MS := mset st k i st.2.1
def madd (st : MS) (k i : Nat) (v : Int32) : MS := mset st k i (st.1 k i + v)
def m_decA (st : MS) (n sh z : Nat) (tn : Bool) : MS := mnw (mcp (mset (madd (m_inc (m_inc (m_inc st 11 (7 * sh)) 12 (stp z)) 13 10) 13 11 (bI tn)) 2 n (-9)) 8 n 13 10) 9 n
def m_rowK (s8 : MS) (km n sh : Nat) (tn : Bool) (w : Int32) : MS := madd (mkm (mcp (mnw (mset (mset (mcp (mset (mcp (mset s8 10 (8 * km) (nI n)) 10 (8 * km + 1) 3 n) 10 (8 * km + 2) (nI sh)) 10 (8 * km + 3) 5 n) 10 (8 * km + 4) w) 10 (8 * km + 5) (bI tn)) 10 (8 * km + 6)) 10 (8 * km + 7) 13 10) (km + 1)) 11 (7 * sh + 1) w
def m_row (s8 : MS) (n sh : Nat) (tn : Bool) (w : Int32) : MS := m_rowK s8 s8.2.2.2 n sh tn w
def m_keep (s8 : MS) (n sh : Nat) (tn : Bool) (w : Int32) : MS :=
  if w ≤ 0 then s8 else if s8.2.2.2 = 20 then madd s8 11 (7 * sh + 3) w else m_row s8 n sh tn w
def m_decS (st : MS) (n sh z : Nat) (tn : Bool) : MS := m_keep (m_decA (m_weight st sh (nI z) tn).2 n sh z tn) n sh tn (m_weight st sh (nI z) tn).1
def m_dec (st : MS) (n : Nat) (tn : Bool) : MS := m_decS st n (st.1 4 n).toNatClampNeg (st.1 5 n).toNatClampNeg tn
/-- what the weighing leaves as it is -/
def m_only (st u : MS) : Prop := (∀ k, k ≠ 11 → u.1 k = st.1 k) ∧ u.2.1 = st.2.1 ∧ u.2.2.2 = st.2.2.2
theorem m_only_set {st u : MS} {i : Nat} {v : Int32} (h : m_only st u) : m_only st (mset u 11 i v) := ⟨fun k hk => (va_up_ne _ _ hk).trans (h.1 k hk), h.2⟩
theorem m_only_tr {st u : MS} {v : Int64} (h : m_only st u) : m_only st (mtr u v) := h
theorem m_only_rf (st : MS) : m_only st st := ⟨fun _ _ => rfl, rfl, rfl⟩
theorem m_only_fair {st u : MS} (sh : Nat) (h : m_only st u) : m_only st (m_fair u sh).2 := by
  unfold m_fair
  dsimp only
  split
  · exact m_only_set (m_only_set (m_only_tr h))
  · exact m_only_set (m_only_tr h)
theorem m_only_long {st u : MS} (sh : Nat) (z : Int32) (h : m_only st u) : m_only st (m_long u sh z).2 := by
  unfold m_long
  dsimp only
  split
  · exact m_only_fair sh (m_only_tr h)
  · exact m_only_tr h
theorem m_only_rare {st u : MS} (sh : Nat) (z : Int32) (h : m_only st u) : m_only st (m_rare u sh z).2 := by
  unfold m_rare
  dsimp only
  split
  · exact m_only_long sh z (m_only_tr h)
  · exact m_only_tr h
theorem m_only_weight (st : MS) (sh : Nat) (z : Int32) (tn : Bool) : m_only st (m_weight st sh z tn).2 := by
  unfold m_weight
  dsimp only
  split
  · split
    · exact m_only_set (m_only_tr (m_only_rf st))
    · exact m_only_rare sh z (m_only_tr (m_only_rf st))
  · exact m_only_rare sh z (m_only_rf st)
section MC2
variable (l : Launch) {D : va_G} {g : Nat → Nat} {K : Nat → ClassId}
theorem mc_home_bad (st : MS) (x : Int32) (h : inR x (nI 0) (nI 99) = false) : kM l yX2_home cX2_home 2 (some .int) 1 25 0 0 D (mty K) (mw g K) [.ref (g 0), .int x] st (fun v u => v = some (.int (-1)) ∧ u = st) := by
  refine kM_intro (by decide) (Nat.le_of_ble_eq_true rfl) ?_
  intro p e s m below meth c A ls F hA hI hl
  obtain ⟨hx, hb, hr, hml, hown, hts, hlk, hK, hnm⟩ := id F
  have hl : lv_has ls 2 [(0, .ref (g 0)), (1, .int x)] := hl
  refine lv_aload_n hx hb dX2_home_0 rfl (lv_at hl 0 rfl) ?_
  refine lv_iconst (v := nI 0) hx hb dX2_home_1 (by decide) ?_
  refine m_putTh F hI flX2_53 dX2_home_2 (fun H locs hI => ?_)
  refine lv_iload_n hx hb dX2_home_5 rfl (lv_at hl 1 rfl) ?_
  refine lv_iconst (v := nI 0) hx hb dX2_home_6 (by decide) ?_
  refine lv_bipush (v := nI 99) hx hb dX2_home_7 (by decide) ?_
  refine kcallS (rest := []) F hA hI (mc_in l _ _ _ _) kgX2_57 hl.1 rfl rfl (Nat.le_of_ble_eq_true rfl) dX2_home_9 ⟨Nat.le_of_ble_eq_true rfl, Nat.le_of_ble_eq_true rfl⟩ ⟨Nat.le_of_ble_eq_true rfl, Nat.le_of_ble_eq_true rfl⟩ (fun vq uq H locs hp hI => ?_)
  obtain ⟨rfl, hu⟩ := hp
  rw [hu] at hI
  clear hu
  refine kstk (b := .int _ :: []) rfl ?_
  refine lv_if_eq (tgt := 23) hx hb dX2_home_12 (by decide) (fun c12 => ?_) (fun c12 => absurd c12 (fun q => q (bI_z.mpr h)))
  refine lv_iconst (v := -1) hx hb dX2_home_23 (by decide) ?_
  exact kret_i F hI dX2_home_24 (⟨rfl, rfl⟩)
theorem mc_home (st : MS) (n : Nat) (hn : n < 100) : kM l yX2_home cX2_home 2 (some .int) 1 25 0 0 D (mty K) (mw g K) [.ref (g 0), .int (nI n)] st (fun v u => v = some (.int (hm (m_up st) n)) ∧ u = st) := by
  have h : inR (nI n) (nI 0) (nI 99) = true := inR_in (by decide) (by omega) (by omega)
  refine kM_intro (by decide) (Nat.le_of_ble_eq_true rfl) ?_
  intro p e s m below meth c A ls F hA hI hl
  obtain ⟨hx, hb, hr, hml, hown, hts, hlk, hK, hnm⟩ := id F
  have hl : lv_has ls 2 [(0, .ref (g 0)), (1, .int (nI n))] := hl
  refine lv_aload_n hx hb dX2_home_0 rfl (lv_at hl 0 rfl) ?_
  refine lv_iconst (v := nI 0) hx hb dX2_home_1 (by decide) ?_
  refine m_putTh F hI flX2_53 dX2_home_2 (fun H locs hI => ?_)
  refine lv_iload_n hx hb dX2_home_5 rfl (lv_at hl 1 rfl) ?_
  refine lv_iconst (v := nI 0) hx hb dX2_home_6 (by decide) ?_
  refine lv_bipush (v := nI 99) hx hb dX2_home_7 (by decide) ?_
  refine kcallS (rest := []) F hA hI (mc_in l _ _ _ _) kgX2_57 hl.1 rfl rfl (Nat.le_of_ble_eq_true rfl) dX2_home_9 ⟨Nat.le_of_ble_eq_true rfl, Nat.le_of_ble_eq_true rfl⟩ ⟨Nat.le_of_ble_eq_true rfl, Nat.le_of_ble_eq_true rfl⟩ (fun vq uq H locs hp hI => ?_)
  obtain ⟨rfl, hu⟩ := hp
  rw [hu] at hI
  clear hu
  refine kstk (b := .int _ :: []) rfl ?_
  refine lv_if_eq (tgt := 23) hx hb dX2_home_12 (by decide) (fun c12 => absurd c12 (fun q => by rw [bI_z, h] at q; cases q)) (fun c12 => ?_)
  refine lv_aload_n hx hb dX2_home_15 rfl (lv_at hl 0 rfl) ?_
  refine lv_iload_n hx hb dX2_home_16 rfl (lv_at hl 1 rfl) ?_
  refine kcallV (rest := []) F hA hI (mc_homeOf l _ n hn) kgX2_61 (m_rec F hI) hl.1 rfl rfl (Nat.le_of_ble_eq_true rfl) dX2_home_17 ⟨Nat.le_of_ble_eq_true rfl, Nat.le_of_ble_eq_true rfl⟩ ⟨Nat.le_of_ble_eq_true rfl, Nat.le_of_ble_eq_true rfl⟩ (fun vq uq H locs hp hI => ?_)
  obtain ⟨rfl, hu⟩ := hp
  rw [hu] at hI
  clear hu
  refine kstk (b := .int _ :: []) rfl ?_
  refine lv_goto (tgt := 24) hx hb dX2_home_20 (by decide) ?_
  exact kret_i F hI dX2_home_24 (⟨rfl, rfl⟩)
theorem mc_keeper_bad (st : MS) (x : Int32) (up : Bool) (h : inR x (nI 0) (nI 3) = false) : kM l yX2_keeper cX2_keeper 4 (some .int) 1 25 0 0 D (mty K) (mw g K) [.ref (g 0), .int x, .int (bI up)] st (fun v u => v = some (.int (-1)) ∧ u = st) := by
  refine kM_intro (by decide) (Nat.le_of_ble_eq_true rfl) ?_
  intro p e s m below meth c A ls F hA hI hl
  obtain ⟨hx, hb, hr, hml, hown, hts, hlk, hK, hnm⟩ := id F
  have hl : lv_has ls 4 [(0, .ref (g 0)), (1, .int x), (2, .int (bI up))] := hl
  refine lv_aload_n hx hb dX2_keeper_0 rfl (lv_at hl 0 rfl) ?_
  refine lv_iconst (v := nI 0) hx hb dX2_keeper_1 (by decide) ?_
  refine m_putTh F hI flX2_53 dX2_keeper_2 (fun H locs hI => ?_)
  refine lv_iload_n hx hb dX2_keeper_5 rfl (lv_at hl 1 rfl) ?_
  refine lv_iconst (v := nI 0) hx hb dX2_keeper_6 (by decide) ?_
  refine lv_iconst (v := nI 3) hx hb dX2_keeper_7 (by decide) ?_
  refine kcallS (rest := []) F hA hI (mc_in l _ _ _ _) kgX2_57 hl.1 rfl rfl (Nat.le_of_ble_eq_true rfl) dX2_keeper_8 ⟨Nat.le_of_ble_eq_true rfl, Nat.le_of_ble_eq_true rfl⟩ ⟨Nat.le_of_ble_eq_true rfl, Nat.le_of_ble_eq_true rfl⟩ (fun vq uq H locs hp hI => ?_)
  obtain ⟨rfl, hu⟩ := hp
  rw [hu] at hI
  clear hu
  refine kstk (b := .int _ :: []) rfl ?_
  refine lv_if_ne (tgt := 16) hx hb dX2_keeper_11 (by decide) (fun c11 => absurd c11 (fun q => q (bI_z.mpr h))) (fun c11 => ?_)
  refine lv_iconst (v := -1) hx hb dX2_keeper_14 (by decide) ?_
  exact kret_i F hI dX2_keeper_15 (⟨rfl, rfl⟩)
theorem mc_keeper (st : MS) (k : Nat) (up : Bool) (hk : k < 4) : kM l yX2_keeper cX2_keeper 4 (some .int) 1 25 0 0 D (mty K) (mw g K) [.ref (g 0), .int (nI k), .int (bI up)] st (fun v u => v = some (.int (m_keeper st k up).1) ∧ u = (m_keeper st k up).2) := by
  have h : inR (nI k) (nI 0) (nI 3) = true := inR_in (by decide) (by omega) (by omega)
  refine kM_intro (by decide) (Nat.le_of_ble_eq_true rfl) ?_
  intro p e s m below meth c A ls F hA hI hl
  obtain ⟨hx, hb, hr, hml, hown, hts, hlk, hK, hnm⟩ := id F
  have hl : lv_has ls 4 [(0, .ref (g 0)), (1, .int (nI k)), (2, .int (bI up))] := hl
  by_cases hd : st.1 0 k = bI up
  · have h0 : bI (!up) = if bI up = 0 then nI 1 else nI 0 := by cases up <;> rfl
    have fin : ∀ (H : Heap) (locs : List Loc) (ls : Array Slot), kI D (mw g K) A s.heap (mset st 0 k (bI (!up))) H locs → lv_has ls 4 [(0, .ref (g 0)), (1, .int (nI k)), (2, .int (bI up))] → W p l e { frames := 1, cells := 0, slots := 0, locals := 25 } s m #[.ref (g 0), .int (nI k), .int (bI up)] below meth c H locs 0 0 (MQ below (kQ D (mty K) (mw g K) (fun v u => v = some (.int (m_keeper st k up).1) ∧ u = (m_keeper st k up).2) A) #[.ref (g 0), .int (nI k), .int (bI up)] s 0 0 A) (F0 m 43 ls []) := by
      intro H locs ls hI hl
      refine lv_iconst (v := nI 0) hx hb dX2_keeper_43 (by decide) ?_
      refine lv_istore_n (lv' := [(3, .int _), (0, .ref _), (1, .int _), (2, .int _)]) hx hb dX2_keeper_44 rfl hl (by decide) rfl (fun ls hl => ?_)
      refine wloop (σ := Nat × Nat × MS) (fun x => x.1) (fun x H locs ls => x.2.1 + x.1 = 100 ∧ m_kpL k up x.1 x.2.1 x.2.2 = (m_keeper st k up).2 ∧ kI D (mw g K) A s.heap x.2.2 H locs ∧ lv_has ls 4 [(3, .int (nI x.2.1)), (0, .ref (g 0)), (1, .int (nI k)), (2, .int (bI up))]) ?_ (100, 0, mset st 0 k (bI (!up))) _ _ _ ⟨rfl, by simp [m_keeper, hd], hI, lv_sub hl [0, 1, 2, 3] rfl⟩
      rintro ⟨f, n, u⟩ H locs ls ⟨hk, he, hI, hl⟩ ih
      dsimp only at hk he hI hl ih
      have h83 : ∀ (u2 : MS) (H : Heap) (locs : List Loc) (ls : Array Slot), 0 < f → u2 = m_kp1 u k up n → kI D (mw g K) A s.heap u2 H locs → lv_has ls 4 [(3, .int (nI n)), (0, .ref (g 0)), (1, .int (nI k)), (2, .int (bI up))] → W p l e { frames := 1, cells := 0, slots := 0, locals := 25 } s m #[.ref (g 0), .int (nI k), .int (bI up)] below meth c H locs 0 0 (MQ below (kQ D (mty K) (mw g K) (fun v u => v = some (.int (m_keeper st k up).1) ∧ u = (m_keeper st k up).2) A) #[.ref (g 0), .int (nI k), .int (bI up)] s 0 0 A) (F0 m 83 ls []) := by
        intro u2 H locs ls hf hu hI hl
        obtain ⟨f, rfl⟩ : ∃ f', f = f' + 1 := ⟨f - 1, by omega⟩
        refine lv_aload_n hx hb dX2_keeper_83 rfl (lv_at hl 1 rfl) ?_
        refine m_get F hI 5 (by decide) rfl flX2_17 dX2_keeper_84 ?_
        refine lv_iload_n hx hb dX2_keeper_87 rfl (lv_at hl 0 rfl) ?_
        refine m_ald F hI  2 (show n < 100 by omega) rfl dX2_keeper_88 ?_
        refine lv_bipush (v := -9) hx hb dX2_keeper_89 (by decide) ?_
        refine lv_icmp_eq (tgt := 129) hx hb dX2_keeper_91 (by decide) (fun c91 => ?_) (fun c91 => ?_)
        ·
          refine lv_iinc (v := nI (n + 1)) (lv' := [(3, .int _), (0, .ref _), (1, .int _), (2, .int _)]) hx hb dX2_keeper_129 hl (k := 0) rfl (kinc _ 1) (by decide) rfl (fun ls hl => ?_)
          refine lv_goto (tgt := 45) hx hb dX2_keeper_132 (by decide) ?_
          exact ih (f, n + 1, u2) _ _ _ (by show f < f + 1; omega) ⟨by show n + 1 + f = _; omega, by rw [← he]; show _ = m_kpL k up f (n + 1) (m_kp2 (m_kp1 u k up n) n); rw [← hu]; simp [m_kp2, c91], hI, lv_sub hl [0, 1, 2, 3] rfl⟩
        ·
          refine lv_aload_n hx hb dX2_keeper_94 rfl (lv_at hl 1 rfl) ?_
          refine m_get F hI 5 (by decide) rfl flX2_17 dX2_keeper_95 ?_
          refine lv_iload_n hx hb dX2_keeper_98 rfl (lv_at hl 0 rfl) ?_
          refine m_ald F hI  2 (show n < 100 by omega) rfl dX2_keeper_99 ?_
          refine lv_aload_n hx hb dX2_keeper_100 rfl (lv_at hl 1 rfl) ?_
          refine lv_iload_n hx hb dX2_keeper_101 rfl (lv_at hl 0 rfl) ?_
          refine kcallV (rest := [.int _]) F hA hI (mc_homeOf l _ n (by omega)) kgX2_61 (m_rec F hI) hl.1 rfl rfl (Nat.le_of_ble_eq_true rfl) dX2_keeper_102 ⟨Nat.le_of_ble_eq_true rfl, Nat.le_of_ble_eq_true rfl⟩ ⟨Nat.le_of_ble_eq_true rfl, Nat.le_of_ble_eq_true rfl⟩ (fun vq uq H locs hp hI => ?_)
          obtain ⟨rfl, hu⟩ := hp
          rw [hu] at hI
          clear hu
          refine kstk (b := .int _ :: [.int _]) rfl ?_
          refine lv_icmp_eq (tgt := 129) hx hb dX2_keeper_105 (by decide) (fun c105 => ?_) (fun c105 => ?_)
          ·
            refine lv_iinc (v := nI (n + 1)) (lv' := [(3, .int _), (0, .ref _), (1, .int _), (2, .int _)]) hx hb dX2_keeper_129 hl (k := 0) rfl (kinc _ 1) (by decide) rfl (fun ls hl => ?_)
            refine lv_goto (tgt := 45) hx hb dX2_keeper_132 (by decide) ?_
            exact ih (f, n + 1, u2) _ _ _ (by show f < f + 1; omega) ⟨by show n + 1 + f = _; omega, by rw [← he]; show _ = m_kpL k up f (n + 1) (m_kp2 (m_kp1 u k up n) n); rw [← hu]; simp [m_kp2, c91, c105], hI, lv_sub hl [0, 1, 2, 3] rfl⟩
          ·
            refine lv_aload_n hx hb dX2_keeper_108 rfl (lv_at hl 1 rfl) ?_
            refine m_get F hI 5 (by decide) rfl flX2_17 dX2_keeper_109 ?_
            refine lv_iload_n hx hb dX2_keeper_112 rfl (lv_at hl 0 rfl) ?_
            refine lv_aload_n hx hb dX2_keeper_113 rfl (lv_at hl 1 rfl) ?_
            refine lv_iload_n hx hb dX2_keeper_114 rfl (lv_at hl 0 rfl) ?_
            refine kcallV (rest := [.int _, .ref _]) F hA hI (mc_homeOf l _ n (by omega)) kgX2_61 (m_rec F hI) hl.1 rfl rfl (Nat.le_of_ble_eq_true rfl) dX2_keeper_115 ⟨Nat.le_of_ble_eq_true rfl, Nat.le_of_ble_eq_true rfl⟩ ⟨Nat.le_of_ble_eq_true rfl, Nat.le_of_ble_eq_true rfl⟩ (fun vq uq H locs hp hI => ?_)
            obtain ⟨rfl, hu⟩ := hp
            rw [hu] at hI
            clear hu
            refine kstk (b := .int _ :: [.int _, .ref _]) rfl ?_
            refine m_ast F hI 2 (show n < 100 by omega) rfl dX2_keeper_118 (fun H locs hI => ?_)
            refine lv_aload_n hx hb dX2_keeper_119 rfl (lv_at hl 1 rfl) ?_
            refine m_get F hI 17 (by decide) rfl flX2_50 dX2_keeper_120 ?_
            refine lv_iconst (v := nI 4) hx hb dX2_keeper_123 (by decide) ?_
            refine lv_dup2_11 hx hb dX2_keeper_124 rfl rfl ?_
            refine m_ald F hI  13 (show 4 < 13 by omega) rfl dX2_keeper_125 ?_
            refine lv_iconst (v := nI 1) hx hb dX2_keeper_126 (by decide) ?_
            refine lv_iadd hx hb dX2_keeper_127 ?_
            refine m_ast F hI 13 (show 4 < 13 by omega) rfl dX2_keeper_128 (fun H locs hI => ?_)
            refine lv_iinc (v := nI (n + 1)) (lv' := [(3, .int _), (0, .ref _), (1, .int _), (2, .int _)]) hx hb dX2_keeper_129 hl (k := 0) rfl (kinc _ 1) (by decide) rfl (fun ls hl => ?_)
            refine lv_goto (tgt := 45) hx hb dX2_keeper_132 (by decide) ?_
            exact ih (f, n + 1, m_inc (mset u2 2 n (hm (m_up u2) n)) 13 4) _ _ _ (by show f < f + 1; omega) ⟨by show n + 1 + f = _; omega, by rw [← he]; show _ = m_kpL k up f (n + 1) (m_kp2 (m_kp1 u k up n) n); rw [← hu]; simp [m_kp2, c91, c105], hI, lv_sub hl [0, 1, 2, 3] rfl⟩
      refine lv_iload_n hx hb dX2_keeper_45 rfl (lv_at hl 0 rfl) ?_
      refine lv_bipush (v := nI 100) hx hb dX2_keeper_46 (by decide) ?_
      refine lv_icmp_ge (tgt := 135) hx hb dX2_keeper_48 (by decide) (fun c48 => ?_) (fun c48 => ?_)
      ·
        rw [nI_leI (by omega) (by omega)] at c48
        obtain rfl : f = 0 := by omega
        refine lv_iconst (v := nI 1) hx hb dX2_keeper_135 (by decide) ?_
        exact kret_i F hI dX2_keeper_136 (⟨by simp [m_keeper, hd], by rw [← he]; rfl⟩)
      ·
        rw [nI_leI (by omega) (by omega)] at c48
        refine lv_aload_n hx hb dX2_keeper_51 rfl (lv_at hl 1 rfl) ?_
        refine m_get F hI 5 (by decide) rfl flX2_17 dX2_keeper_52 ?_
        refine lv_iload_n hx hb dX2_keeper_55 rfl (lv_at hl 0 rfl) ?_
        refine m_ald F hI  2 (show n < 100 by omega) rfl dX2_keeper_56 ?_
        refine lv_iload_n hx hb dX2_keeper_57 rfl (lv_at hl 2 rfl) ?_
        refine lv_icmp_ne (tgt := 83) hx hb dX2_keeper_58 (by decide) (fun c58 => ?_) (fun c58 => ?_)
        ·
          exact h83 u _ _ _ (by omega) (by simp [m_kp1, c58]) hI (lv_sub hl [0, 1, 2, 3] rfl)
        ·
          refine lv_iload_n hx hb dX2_keeper_61 rfl (lv_at hl 3 rfl) ?_
          refine lv_if_ne (tgt := 83) hx hb dX2_keeper_62 (by decide) (fun c62 => ?_) (fun c62 => ?_)
          ·
            exact h83 u _ _ _ (by omega) (by rw [bI_z] at c62; simp [m_kp1, c62]) hI (lv_sub hl [0, 1, 2, 3] rfl)
          ·
            refine lv_aload_n hx hb dX2_keeper_65 rfl (lv_at hl 1 rfl) ?_
            refine m_get F hI 5 (by decide) rfl flX2_17 dX2_keeper_66 ?_
            refine lv_iload_n hx hb dX2_keeper_69 rfl (lv_at hl 0 rfl) ?_
            refine lv_bipush (v := -9) hx hb dX2_keeper_70 (by decide) ?_
            refine m_ast F hI 2 (show n < 100 by omega) rfl dX2_keeper_72 (fun H locs hI => ?_)
            refine lv_aload_n hx hb dX2_keeper_73 rfl (lv_at hl 1 rfl) ?_
            refine m_get F hI 17 (by decide) rfl flX2_50 dX2_keeper_74 ?_
            refine lv_iconst (v := nI 3) hx hb dX2_keeper_77 (by decide) ?_
            refine lv_dup2_11 hx hb dX2_keeper_78 rfl rfl ?_
            refine m_ald F hI  13 (show 3 < 13 by omega) rfl dX2_keeper_79 ?_
            refine lv_iconst (v := nI 1) hx hb dX2_keeper_80 (by decide) ?_
            refine lv_iadd hx hb dX2_keeper_81 ?_
            refine m_ast F hI 13 (show 3 < 13 by omega) rfl dX2_keeper_82 (fun H locs hI => ?_)
            exact h83 _ _ _ _ (by omega) (by rw [bI_z] at c62; simp [m_kp1, c58, c62, m_inc]) hI (lv_sub hl [0, 1, 2, 3] rfl)
    refine lv_aload_n hx hb dX2_keeper_0 rfl (lv_at hl 0 rfl) ?_
    refine lv_iconst (v := nI 0) hx hb dX2_keeper_1 (by decide) ?_
    refine m_putTh F hI flX2_53 dX2_keeper_2 (fun H locs hI => ?_)
    refine lv_iload_n hx hb dX2_keeper_5 rfl (lv_at hl 1 rfl) ?_
    refine lv_iconst (v := nI 0) hx hb dX2_keeper_6 (by decide) ?_
    refine lv_iconst (v := nI 3) hx hb dX2_keeper_7 (by decide) ?_
    refine kcallS (rest := []) F hA hI (mc_in l _ _ _ _) kgX2_57 hl.1 rfl rfl (Nat.le_of_ble_eq_true rfl) dX2_keeper_8 ⟨Nat.le_of_ble_eq_true rfl, Nat.le_of_ble_eq_true rfl⟩ ⟨Nat.le_of_ble_eq_true rfl, Nat.le_of_ble_eq_true rfl⟩ (fun vq uq H locs hp hI => ?_)
    obtain ⟨rfl, hu⟩ := hp
    rw [hu] at hI
    clear hu
    refine kstk (b := .int _ :: []) rfl ?_
    refine lv_if_ne (tgt := 16) hx hb dX2_keeper_11 (by decide) (fun c11 => ?_) (fun c11 => absurd c11 (fun q => by rw [bI_z, h] at q; cases q))
    refine lv_aload_n hx hb dX2_keeper_16 rfl (lv_at hl 0 rfl) ?_
    refine m_get F hI 3 (by decide) rfl flX2_7 dX2_keeper_17 ?_
    refine lv_iload_n hx hb dX2_keeper_20 rfl (lv_at hl 1 rfl) ?_
    refine m_zald F hI  0 (show k < 4 by omega) rfl dX2_keeper_21 ?_
    refine lv_iload_n hx hb dX2_keeper_22 rfl (lv_at hl 2 rfl) ?_
    refine lv_icmp_eq (tgt := 28) hx hb dX2_keeper_23 (by decide) (fun c23 => ?_) (fun c23 => absurd c23 ((fun q => q hd)))
    refine lv_aload_n hx hb dX2_keeper_28 rfl (lv_at hl 0 rfl) ?_
    refine m_get F hI 3 (by decide) rfl flX2_7 dX2_keeper_29 ?_
    refine lv_iload_n hx hb dX2_keeper_32 rfl (lv_at hl 1 rfl) ?_
    refine lv_iload_n hx hb dX2_keeper_33 rfl (lv_at hl 2 rfl) ?_
    refine lv_if_ne (tgt := 41) hx hb dX2_keeper_34 (by decide) (fun c34 => ?_) (fun c34 => ?_)
    ·
      refine lv_iconst (v := nI 0) hx hb dX2_keeper_41 (by decide) ?_
      refine m_zast F hI 0 (show k < 4 by omega) rfl (by first | rfl | decide) dX2_keeper_42 (fun H locs hI => ?_)
      exact fin _ _ _ (by rw [h0, if_neg c34]; exact hI) hl
    ·
      refine lv_iconst (v := nI 1) hx hb dX2_keeper_37 (by decide) ?_
      refine lv_goto (tgt := 42) hx hb dX2_keeper_38 (by decide) ?_
      refine m_zast F hI 0 (show k < 4 by omega) rfl (by first | rfl | decide) dX2_keeper_42 (fun H locs hI => ?_)
      exact fin _ _ _ (by rw [h0, if_pos c34]; exact hI) hl
  · have hl := hl
    refine lv_aload_n hx hb dX2_keeper_0 rfl (lv_at hl 0 rfl) ?_
    refine lv_iconst (v := nI 0) hx hb dX2_keeper_1 (by decide) ?_
    refine m_putTh F hI flX2_53 dX2_keeper_2 (fun H locs hI => ?_)
    refine lv_iload_n hx hb dX2_keeper_5 rfl (lv_at hl 1 rfl) ?_
    refine lv_iconst (v := nI 0) hx hb dX2_keeper_6 (by decide) ?_
    refine lv_iconst (v := nI 3) hx hb dX2_keeper_7 (by decide) ?_
    refine kcallS (rest := []) F hA hI (mc_in l _ _ _ _) kgX2_57 hl.1 rfl rfl (Nat.le_of_ble_eq_true rfl) dX2_keeper_8 ⟨Nat.le_of_ble_eq_true rfl, Nat.le_of_ble_eq_true rfl⟩ ⟨Nat.le_of_ble_eq_true rfl, Nat.le_of_ble_eq_true rfl⟩ (fun vq uq H locs hp hI => ?_)
    obtain ⟨rfl, hu⟩ := hp
    rw [hu] at hI
    clear hu
    refine kstk (b := .int _ :: []) rfl ?_
    refine lv_if_ne (tgt := 16) hx hb dX2_keeper_11 (by decide) (fun c11 => ?_) (fun c11 => absurd c11 (fun q => by rw [bI_z, h] at q; cases q))
    refine lv_aload_n hx hb dX2_keeper_16 rfl (lv_at hl 0 rfl) ?_
    refine m_get F hI 3 (by decide) rfl flX2_7 dX2_keeper_17 ?_
    refine lv_iload_n hx hb dX2_keeper_20 rfl (lv_at hl 1 rfl) ?_
    refine m_zald F hI  0 (show k < 4 by omega) rfl dX2_keeper_21 ?_
    refine lv_iload_n hx hb dX2_keeper_22 rfl (lv_at hl 2 rfl) ?_
    refine lv_icmp_eq (tgt := 28) hx hb dX2_keeper_23 (by decide) (fun c23 => absurd c23 (hd)) (fun c23 => ?_)
    refine lv_iconst (v := nI 0) hx hb dX2_keeper_26 (by decide) ?_
    exact kret_i F hI dX2_keeper_27 (⟨by simp [m_keeper, hd], by simp [m_keeper, hd]⟩)
theorem mc_set_bad (st : MS) (x v : Int32) (h : (if x = nI 0 then inR v (nI 1) (nI 9) else if x = nI 1 then inR v (nI 1) (nI 8000) else if x = nI 2 then inR v (nI 0) (nI 9) else if x = nI 3 then inR v (nI 0) (nI 1) else if x = nI 4 then inR v (nI 1) (nI 20) else if x = nI 5 then inR v (nI 0) (nI 20) else false) = false) : kM l yX2_set cX2_set 6 (some .int) 1 22 0 0 D (mty K) (mw g K) [.ref (g 0), .int x, .int v] st (fun v u => v = some (.int (-1)) ∧ u = st) := by
  refine kM_intro (by decide) (Nat.le_of_ble_eq_true rfl) ?_
  intro p e s m below meth c A ls F hA hI hl
  obtain ⟨hx, hb, hr, hml, hown, hts, hlk, hK, hnm⟩ := id F
  have hl : lv_has ls 6 [(0, .ref (g 0)), (1, .int x), (2, .int v)] := hl
  have z0 : nI 0 = 0 := rfl
  refine lv_aload_n hx hb dX2_set_0 rfl (lv_at hl 0 rfl) ?_
  refine lv_iconst (v := nI 0) hx hb dX2_set_1 (by decide) ?_
  refine m_putTh F hI flX2_53 dX2_set_2 (fun H locs hI => ?_)
  refine lv_iload_n hx hb dX2_set_5 rfl (lv_at hl 1 rfl) ?_
  refine lv_if_ne (tgt := 19) hx hb dX2_set_6 (by decide) (fun c6 => ?_) (fun c6 => ?_)
  ·
    refine lv_iload_n hx hb dX2_set_19 rfl (lv_at hl 1 rfl) ?_
    refine lv_iconst (v := nI 1) hx hb dX2_set_20 (by decide) ?_
    refine lv_icmp_ne (tgt := 35) hx hb dX2_set_21 (by decide) (fun c21 => ?_) (fun c21 => ?_)
    ·
      refine lv_iload_n hx hb dX2_set_35 rfl (lv_at hl 1 rfl) ?_
      refine lv_iconst (v := nI 2) hx hb dX2_set_36 (by decide) ?_
      refine lv_icmp_ne (tgt := 50) hx hb dX2_set_37 (by decide) (fun c37 => ?_) (fun c37 => ?_)
      ·
        refine lv_iload_n hx hb dX2_set_50 rfl (lv_at hl 1 rfl) ?_
        refine lv_iconst (v := nI 3) hx hb dX2_set_51 (by decide) ?_
        refine lv_icmp_ne (tgt := 64) hx hb dX2_set_52 (by decide) (fun c52 => ?_) (fun c52 => ?_)
        ·
          refine lv_iload_n hx hb dX2_set_64 rfl (lv_at hl 1 rfl) ?_
          refine lv_iconst (v := nI 4) hx hb dX2_set_65 (by decide) ?_
          refine lv_icmp_ne (tgt := 79) hx hb dX2_set_66 (by decide) (fun c66 => ?_) (fun c66 => ?_)
          ·
            refine lv_iload_n hx hb dX2_set_79 rfl (lv_at hl 1 rfl) ?_
            refine lv_iconst (v := nI 5) hx hb dX2_set_80 (by decide) ?_
            refine lv_icmp_ne (tgt := 98) hx hb dX2_set_81 (by decide) (fun c81 => ?_) (fun c81 => ?_)
            ·
              refine lv_iconst (v := nI 0) hx hb dX2_set_98 (by decide) ?_
              refine lv_istore_n (lv' := [(3, .int _), (0, .ref _), (1, .int _), (2, .int _)]) hx hb dX2_set_99 rfl hl (by decide) rfl (fun ls hl => ?_)
              refine lv_iload_n hx hb dX2_set_100 rfl (lv_at hl 0 rfl) ?_
              refine lv_if_ne (tgt := 106) hx hb dX2_set_101 (by decide) (fun c101 => absurd c101 (fun q => q rfl)) (fun c101 => ?_)
              refine lv_iconst (v := -1) hx hb dX2_set_104 (by decide) ?_
              exact kret_i F hI dX2_set_105 (⟨rfl, rfl⟩)
            ·
              refine lv_iload_n hx hb dX2_set_84 rfl (lv_at hl 2 rfl) ?_
              refine lv_iconst (v := nI 0) hx hb dX2_set_85 (by decide) ?_
              refine lv_bipush (v := nI 20) hx hb dX2_set_86 (by decide) ?_
              refine kcallS (rest := []) F hA hI (mc_in l _ _ _ _) kgX2_57 hl.1 rfl rfl (Nat.le_of_ble_eq_true rfl) dX2_set_88 ⟨Nat.le_of_ble_eq_true rfl, Nat.le_of_ble_eq_true rfl⟩ ⟨Nat.le_of_ble_eq_true rfl, Nat.le_of_ble_eq_true rfl⟩ (fun vq uq H locs hp hI => ?_)
              obtain ⟨rfl, hu⟩ := hp
              rw [hu] at hI
              clear hu
              refine kstk (b := .int _ :: []) rfl ?_
              refine lv_if_eq (tgt := 98) hx hb dX2_set_91 (by decide) (fun c91 => ?_) (fun c91 => absurd c91 (fun q => q (by rw [bI_z]; rw [if_neg (show ¬ x = nI 0 from c6), if_neg c21, if_neg c37, if_neg c52, if_neg c66, if_pos c81] at h; exact h)))
              refine lv_iconst (v := nI 0) hx hb dX2_set_98 (by decide) ?_
              refine lv_istore_n (lv' := [(3, .int _), (0, .ref _), (1, .int _), (2, .int _)]) hx hb dX2_set_99 rfl hl (by decide) rfl (fun ls hl => ?_)
              refine lv_iload_n hx hb dX2_set_100 rfl (lv_at hl 0 rfl) ?_
              refine lv_if_ne (tgt := 106) hx hb dX2_set_101 (by decide) (fun c101 => absurd c101 (fun q => q rfl)) (fun c101 => ?_)
              refine lv_iconst (v := -1) hx hb dX2_set_104 (by decide) ?_
              exact kret_i F hI dX2_set_105 (⟨rfl, rfl⟩)
          ·
            refine lv_iload_n hx hb dX2_set_69 rfl (lv_at hl 2 rfl) ?_
            refine lv_iconst (v := nI 1) hx hb dX2_set_70 (by decide) ?_
            refine lv_bipush (v := nI 20) hx hb dX2_set_71 (by decide) ?_
            refine kcallS (rest := []) F hA hI (mc_in l _ _ _ _) kgX2_57 hl.1 rfl rfl (Nat.le_of_ble_eq_true rfl) dX2_set_73 ⟨Nat.le_of_ble_eq_true rfl, Nat.le_of_ble_eq_true rfl⟩ ⟨Nat.le_of_ble_eq_true rfl, Nat.le_of_ble_eq_true rfl⟩ (fun vq uq H locs hp hI => ?_)
            obtain ⟨rfl, hu⟩ := hp
            rw [hu] at hI
            clear hu
            refine kstk (b := .int _ :: []) rfl ?_
            refine lv_goto (tgt := 99) hx hb dX2_set_76 (by decide) ?_
            refine lv_istore_n (lv' := [(3, .int _), (0, .ref _), (1, .int _), (2, .int _)]) hx hb dX2_set_99 rfl hl (by decide) rfl (fun ls hl => ?_)
            refine lv_iload_n hx hb dX2_set_100 rfl (lv_at hl 0 rfl) ?_
            refine lv_if_ne (tgt := 106) hx hb dX2_set_101 (by decide) (fun c101 => absurd c101 (fun q => q (by rw [bI_z]; rw [if_neg (show ¬ x = nI 0 from c6), if_neg c21, if_neg c37, if_neg c52, if_pos c66] at h; exact h))) (fun c101 => ?_)
            refine lv_iconst (v := -1) hx hb dX2_set_104 (by decide) ?_
            exact kret_i F hI dX2_set_105 (⟨rfl, rfl⟩)
        ·
          refine lv_iload_n hx hb dX2_set_55 rfl (lv_at hl 2 rfl) ?_
          refine lv_iconst (v := nI 0) hx hb dX2_set_56 (by decide) ?_
          refine lv_iconst (v := nI 1) hx hb dX2_set_57 (by decide) ?_
          refine kcallS (rest := []) F hA hI (mc_in l _ _ _ _) kgX2_57 hl.1 rfl rfl (Nat.le_of_ble_eq_true rfl) dX2_set_58 ⟨Nat.le_of_ble_eq_true rfl, Nat.le_of_ble_eq_true rfl⟩ ⟨Nat.le_of_ble_eq_true rfl, Nat.le_of_ble_eq_true rfl⟩ (fun vq uq H locs hp hI => ?_)
          obtain ⟨rfl, hu⟩ := hp
          rw [hu] at hI
          clear hu
          refine kstk (b := .int _ :: []) rfl ?_
          refine lv_goto (tgt := 99) hx hb dX2_set_61 (by decide) ?_
          refine lv_istore_n (lv' := [(3, .int _), (0, .ref _), (1, .int _), (2, .int _)]) hx hb dX2_set_99 rfl hl (by decide) rfl (fun ls hl => ?_)
          refine lv_iload_n hx hb dX2_set_100 rfl (lv_at hl 0 rfl) ?_
          refine lv_if_ne (tgt := 106) hx hb dX2_set_101 (by decide) (fun c101 => absurd c101 (fun q => q (by rw [bI_z]; rw [if_neg (show ¬ x = nI 0 from c6), if_neg c21, if_neg c37, if_pos c52] at h; exact h))) (fun c101 => ?_)
          refine lv_iconst (v := -1) hx hb dX2_set_104 (by decide) ?_
          exact kret_i F hI dX2_set_105 (⟨rfl, rfl⟩)
      ·
        refine lv_iload_n hx hb dX2_set_40 rfl (lv_at hl 2 rfl) ?_
        refine lv_iconst (v := nI 0) hx hb dX2_set_41 (by decide) ?_
        refine lv_bipush (v := nI 9) hx hb dX2_set_42 (by decide) ?_
        refine kcallS (rest := []) F hA hI (mc_in l _ _ _ _) kgX2_57 hl.1 rfl rfl (Nat.le_of_ble_eq_true rfl) dX2_set_44 ⟨Nat.le_of_ble_eq_true rfl, Nat.le_of_ble_eq_true rfl⟩ ⟨Nat.le_of_ble_eq_true rfl, Nat.le_of_ble_eq_true rfl⟩ (fun vq uq H locs hp hI => ?_)
        obtain ⟨rfl, hu⟩ := hp
        rw [hu] at hI
        clear hu
        refine kstk (b := .int _ :: []) rfl ?_
        refine lv_goto (tgt := 99) hx hb dX2_set_47 (by decide) ?_
        refine lv_istore_n (lv' := [(3, .int _), (0, .ref _), (1, .int _), (2, .int _)]) hx hb dX2_set_99 rfl hl (by decide) rfl (fun ls hl => ?_)
        refine lv_iload_n hx hb dX2_set_100 rfl (lv_at hl 0 rfl) ?_
        refine lv_if_ne (tgt := 106) hx hb dX2_set_101 (by decide) (fun c101 => absurd c101 (fun q => q (by rw [bI_z]; rw [if_neg (show ¬ x = nI 0 from c6), if_neg c21, if_pos c37] at h; exact h))) (fun c101 => ?_)
        refine lv_iconst (v := -1) hx hb dX2_set_104 (by decide) ?_
        exact kret_i F hI dX2_set_105 (⟨rfl, rfl⟩)
    ·
      refine lv_iload_n hx hb dX2_set_24 rfl (lv_at hl 2 rfl) ?_
      refine lv_iconst (v := nI 1) hx hb dX2_set_25 (by decide) ?_
      refine lv_sipush (v := nI 8000) hx hb dX2_set_26 (by decide) ?_
      refine kcallS (rest := []) F hA hI (mc_in l _ _ _ _) kgX2_57 hl.1 rfl rfl (Nat.le_of_ble_eq_true rfl) dX2_set_29 ⟨Nat.le_of_ble_eq_true rfl, Nat.le_of_ble_eq_true rfl⟩ ⟨Nat.le_of_ble_eq_true rfl, Nat.le_of_ble_eq_true rfl⟩ (fun vq uq H locs hp hI => ?_)
      obtain ⟨rfl, hu⟩ := hp
      rw [hu] at hI
      clear hu
      refine kstk (b := .int _ :: []) rfl ?_
      refine lv_goto (tgt := 99) hx hb dX2_set_32 (by decide) ?_
      refine lv_istore_n (lv' := [(3, .int _), (0, .ref _), (1, .int _), (2, .int _)]) hx hb dX2_set_99 rfl hl (by decide) rfl (fun ls hl => ?_)
      refine lv_iload_n hx hb dX2_set_100 rfl (lv_at hl 0 rfl) ?_
      refine lv_if_ne (tgt := 106) hx hb dX2_set_101 (by decide) (fun c101 => absurd c101 (fun q => q (by rw [bI_z]; rw [if_neg (show ¬ x = nI 0 from c6), if_pos c21] at h; exact h))) (fun c101 => ?_)
      refine lv_iconst (v := -1) hx hb dX2_set_104 (by decide) ?_
      exact kret_i F hI dX2_set_105 (⟨rfl, rfl⟩)
  ·
    refine lv_iload_n hx hb dX2_set_9 rfl (lv_at hl 2 rfl) ?_
    refine lv_iconst (v := nI 1) hx hb dX2_set_10 (by decide) ?_
    refine lv_bipush (v := nI 9) hx hb dX2_set_11 (by decide) ?_
    refine kcallS (rest := []) F hA hI (mc_in l _ _ _ _) kgX2_57 hl.1 rfl rfl (Nat.le_of_ble_eq_true rfl) dX2_set_13 ⟨Nat.le_of_ble_eq_true rfl, Nat.le_of_ble_eq_true rfl⟩ ⟨Nat.le_of_ble_eq_true rfl, Nat.le_of_ble_eq_true rfl⟩ (fun vq uq H locs hp hI => ?_)
    obtain ⟨rfl, hu⟩ := hp
    rw [hu] at hI
    clear hu
    refine kstk (b := .int _ :: []) rfl ?_
    refine lv_goto (tgt := 99) hx hb dX2_set_16 (by decide) ?_
    refine lv_istore_n (lv' := [(3, .int _), (0, .ref _), (1, .int _), (2, .int _)]) hx hb dX2_set_99 rfl hl (by decide) rfl (fun ls hl => ?_)
    refine lv_iload_n hx hb dX2_set_100 rfl (lv_at hl 0 rfl) ?_
    refine lv_if_ne (tgt := 106) hx hb dX2_set_101 (by decide) (fun c101 => absurd c101 (fun q => q (by rw [bI_z]; rw [if_pos (show x = nI 0 from c6)] at h; exact h))) (fun c101 => ?_)
    refine lv_iconst (v := -1) hx hb dX2_set_104 (by decide) ?_
    exact kret_i F hI dX2_set_105 (⟨rfl, rfl⟩)
theorem mc_set (st : MS) (w : Nat) (v : Int32) (hw : w < 6) (h : (if w = 0 then inR v (nI 1) (nI 9) else if w = 1 then inR v (nI 1) (nI 8000) else if w = 2 then inR v (nI 0) (nI 9) else if w = 3 then inR v (nI 0) (nI 1) else if w = 4 then inR v (nI 1) (nI 20) else inR v (nI 0) (nI 20)) = true) : kM l yX2_set cX2_set 6 (some .int) 1 22 0 0 D (mty K) (mw g K) [.ref (g 0), .int (nI w), .int v] st (fun r u => r = some (.int (st.1 1 w)) ∧ u = m_setR st w v) := by
  refine kM_intro (by decide) (Nat.le_of_ble_eq_true rfl) ?_
  intro p e s m below meth c A ls F hA hI hl
  obtain ⟨hx, hb, hr, hml, hown, hts, hlk, hK, hnm⟩ := id F
  have hl : lv_has ls 6 [(0, .ref (g 0)), (1, .int (nI w)), (2, .int v)] := hl
  have z0 : nI w = 0 ↔ w = 0 := nI_eq (b := 0) (by omega) (by decide)
  have fin : ∀ (H : Heap) (locs : List Loc) (ls : Array Slot), kI D (mw g K) A s.heap st H locs → lv_has ls 6 [(0, .ref (g 0)), (1, .int (nI w)), (2, .int v)] → W p l e { frames := 1, cells := 0, slots := 0, locals := 22 } s m #[.ref (g 0), .int (nI w), .int v] below meth c H locs 0 0 (MQ below (kQ D (mty K) (mw g K) (fun r u => r = some (.int (st.1 1 w)) ∧ u = m_setR st w v) A) #[.ref (g 0), .int (nI w), .int v] s 0 0 A) (F0 m 106 ls []) := by
    intro H locs ls hI hl
    refine lv_aload_n hx hb dX2_set_106 rfl (lv_at hl 0 rfl) ?_
    refine m_get F hI 4 (by decide) rfl flX2_13 dX2_set_107 ?_
    refine lv_iload_n hx hb dX2_set_110 rfl (lv_at hl 1 rfl) ?_
    refine m_ald F hI  1 (show w < 6 by omega) rfl dX2_set_111 ?_
    refine lv_istore (lv' := [(4, .int _), (0, .ref _), (1, .int _), (2, .int _)]) hx hb dX2_set_112 hl (by decide) rfl (fun ls hl => ?_)
    refine lv_aload_n hx hb dX2_set_114 rfl (lv_at hl 1 rfl) ?_
    refine m_get F hI 4 (by decide) rfl flX2_13 dX2_set_115 ?_
    refine lv_iload_n hx hb dX2_set_118 rfl (lv_at hl 2 rfl) ?_
    refine lv_iload_n hx hb dX2_set_119 rfl (lv_at hl 3 rfl) ?_
    refine m_ast F hI 1 (show w < 6 by omega) rfl dX2_set_120 (fun H locs hI => ?_)
    refine lv_iconst (v := nI 0) hx hb dX2_set_121 (by decide) ?_
    refine lv_istore (lv' := [(5, .int _), (4, .int _), (0, .ref _), (1, .int _), (2, .int _)]) hx hb dX2_set_122 hl (by decide) rfl (fun ls hl => ?_)
    refine wloop (σ := Nat × Nat × MS) (fun x => x.1) (fun x H locs ls => x.2.1 + x.1 = 5 ∧ (w = 0 ∧ ¬ st.1 1 w = v → m_tallS x.2.2 x.1 x.2.1 = m_setR st w v) ∧ (¬ (w = 0 ∧ ¬ st.1 1 w = v) → x.2.2 = m_setR st w v) ∧ kI D (mw g K) A s.heap x.2.2 H locs ∧ lv_has ls 6 [(5, .int (nI x.2.1)), (4, .int (st.1 1 w)), (0, .ref (g 0)), (1, .int (nI w)), (2, .int v)]) ?_ (5, 0, mset st 1 w v) _ _ _ ⟨rfl, fun q => by simp only [m_setR, if_pos q], fun q => by simp only [m_setR, if_neg q], hI, lv_sub hl [0, 1, 2, 3, 4] rfl⟩
    rintro ⟨f, i, u⟩ H locs ls ⟨hk, he, he2, hI, hl⟩ ih
    dsimp only at hk he he2 hI hl ih
    refine lv_iload hx hb dX2_set_124 (lv_at hl 0 rfl) ?_
    refine lv_iconst (v := nI 5) hx hb dX2_set_126 (by decide) ?_
    refine lv_icmp_ge (tgt := 187) hx hb dX2_set_127 (by decide) (fun c127 => ?_) (fun c127 => ?_)
    ·
      rw [nI_leI (by omega) (by omega)] at c127
      obtain rfl : f = 0 := by omega
      refine lv_iload hx hb dX2_set_187 (lv_at hl 1 rfl) ?_
      exact kret_i F hI dX2_set_189 (⟨rfl, (Classical.em (w = 0 ∧ ¬ st.1 1 w = v)).elim he he2⟩)
    ·
      rw [nI_leI (by omega) (by omega)] at c127
      obtain ⟨f, rfl⟩ : ∃ f', f = f' + 1 := ⟨f - 1, by omega⟩
      refine lv_iload_n hx hb dX2_set_130 rfl (lv_at hl 3 rfl) ?_
      refine lv_if_ne (tgt := 187) hx hb dX2_set_131 (by decide) (fun c131 => ?_) (fun c131 => ?_)
      ·
        refine lv_iload hx hb dX2_set_187 (lv_at hl 1 rfl) ?_
        exact kret_i F hI dX2_set_189 (⟨rfl, he2 (fun q => c131 (z0.mpr q.1))⟩)
      ·
        refine lv_iload hx hb dX2_set_134 (lv_at hl 1 rfl) ?_
        refine lv_iload_n hx hb dX2_set_136 rfl (lv_at hl 4 rfl) ?_
        refine lv_icmp_eq (tgt := 187) hx hb dX2_set_137 (by decide) (fun c137 => ?_) (fun c137 => ?_)
        ·
          refine lv_iload hx hb dX2_set_187 (lv_at hl 1 rfl) ?_
          exact kret_i F hI dX2_set_189 (⟨rfl, he2 (fun q => q.2 c137)⟩)
        ·
          refine lv_aload_n hx hb dX2_set_140 rfl (lv_at hl 2 rfl) ?_
          refine m_get F hI 15 (by decide) rfl flX2_44 dX2_set_141 ?_
          refine lv_bipush (v := nI 7) hx hb dX2_set_144 (by decide) ?_
          refine lv_iload hx hb dX2_set_146 (lv_at hl 0 rfl) ?_
          refine lv_imul hx hb dX2_set_148 ?_
          refine ktop (y := nI (7 * i)) (pk_mul _ _) ?_
          refine lv_bipush (v := nI 6) hx hb dX2_set_149 (by decide) ?_
          refine lv_iadd hx hb dX2_set_151 ?_
          refine ktop (y := nI ((7 * i) + 6)) (nI_add _ _) ?_
          refine lv_dup2_11 hx hb dX2_set_152 rfl rfl ?_
          refine m_ald F hI  11 (show ((7 * i) + 6) < 35 by omega) rfl dX2_set_153 ?_
          refine lv_aload_n hx hb dX2_set_154 rfl (lv_at hl 2 rfl) ?_
          refine m_get F hI 15 (by decide) rfl flX2_44 dX2_set_155 ?_
          refine lv_bipush (v := nI 7) hx hb dX2_set_158 (by decide) ?_
          refine lv_iload hx hb dX2_set_160 (lv_at hl 0 rfl) ?_
          refine lv_imul hx hb dX2_set_162 ?_
          refine ktop (y := nI (7 * i)) (pk_mul _ _) ?_
          refine lv_iconst (v := nI 5) hx hb dX2_set_163 (by decide) ?_
          refine lv_iadd hx hb dX2_set_164 ?_
          refine ktop (y := nI ((7 * i) + 5)) (nI_add _ _) ?_
          refine m_ald F hI  11 (show ((7 * i) + 5) < 35 by omega) rfl dX2_set_165 ?_
          refine lv_iadd hx hb dX2_set_166 ?_
          refine m_ast F hI 11 (show ((7 * i) + 6) < 35 by omega) rfl dX2_set_167 (fun H locs hI => ?_)
          refine lv_aload_n hx hb dX2_set_168 rfl (lv_at hl 2 rfl) ?_
          refine m_get F hI 15 (by decide) rfl flX2_44 dX2_set_169 ?_
          refine lv_bipush (v := nI 7) hx hb dX2_set_172 (by decide) ?_
          refine lv_iload hx hb dX2_set_174 (lv_at hl 0 rfl) ?_
          refine lv_imul hx hb dX2_set_176 ?_
          refine ktop (y := nI (7 * i)) (pk_mul _ _) ?_
          refine lv_iconst (v := nI 5) hx hb dX2_set_177 (by decide) ?_
          refine lv_iadd hx hb dX2_set_178 ?_
          refine ktop (y := nI ((7 * i) + 5)) (nI_add _ _) ?_
          refine lv_iconst (v := nI 0) hx hb dX2_set_179 (by decide) ?_
          refine m_ast F hI 11 (show ((7 * i) + 5) < 35 by omega) rfl dX2_set_180 (fun H locs hI => ?_)
          refine lv_iinc (v := nI (i + 1)) (lv' := [(5, .int _), (4, .int _), (0, .ref _), (1, .int _), (2, .int _)]) hx hb dX2_set_181 hl (k := 0) rfl (kinc _ 1) (by decide) rfl (fun ls hl => ?_)
          refine lv_goto (tgt := 124) hx hb dX2_set_184 (by decide) ?_
          exact ih (f, i + 1, mset (mset u 11 (7 * i + 6) (u.1 11 (7 * i + 6) + u.1 11 (7 * i + 5))) 11 (7 * i + 5) (nI 0)) _ _ _ (by show f < f + 1; omega) ⟨by show i + 1 + f = _; omega, fun q => he q, fun q => absurd ⟨z0.mp c131, c137⟩ q, hI, lv_sub hl [0, 1, 2, 3, 4] rfl⟩
  refine lv_aload_n hx hb dX2_set_0 rfl (lv_at hl 0 rfl) ?_
  refine lv_iconst (v := nI 0) hx hb dX2_set_1 (by decide) ?_
  refine m_putTh F hI flX2_53 dX2_set_2 (fun H locs hI => ?_)
  refine lv_iload_n hx hb dX2_set_5 rfl (lv_at hl 1 rfl) ?_
  refine lv_if_ne (tgt := 19) hx hb dX2_set_6 (by decide) (fun c6 => ?_) (fun c6 => ?_)
  ·
    rw [z0] at c6
    refine lv_iload_n hx hb dX2_set_19 rfl (lv_at hl 1 rfl) ?_
    refine lv_iconst (v := nI 1) hx hb dX2_set_20 (by decide) ?_
    refine lv_icmp_ne (tgt := 35) hx hb dX2_set_21 (by decide) (fun c21 => ?_) (fun c21 => ?_)
    ·
      rw [nI_eq (by omega) (by omega)] at c21
      refine lv_iload_n hx hb dX2_set_35 rfl (lv_at hl 1 rfl) ?_
      refine lv_iconst (v := nI 2) hx hb dX2_set_36 (by decide) ?_
      refine lv_icmp_ne (tgt := 50) hx hb dX2_set_37 (by decide) (fun c37 => ?_) (fun c37 => ?_)
      ·
        rw [nI_eq (by omega) (by omega)] at c37
        refine lv_iload_n hx hb dX2_set_50 rfl (lv_at hl 1 rfl) ?_
        refine lv_iconst (v := nI 3) hx hb dX2_set_51 (by decide) ?_
        refine lv_icmp_ne (tgt := 64) hx hb dX2_set_52 (by decide) (fun c52 => ?_) (fun c52 => ?_)
        ·
          rw [nI_eq (by omega) (by omega)] at c52
          refine lv_iload_n hx hb dX2_set_64 rfl (lv_at hl 1 rfl) ?_
          refine lv_iconst (v := nI 4) hx hb dX2_set_65 (by decide) ?_
          refine lv_icmp_ne (tgt := 79) hx hb dX2_set_66 (by decide) (fun c66 => ?_) (fun c66 => ?_)
          ·
            rw [nI_eq (by omega) (by omega)] at c66
            refine lv_iload_n hx hb dX2_set_79 rfl (lv_at hl 1 rfl) ?_
            refine lv_iconst (v := nI 5) hx hb dX2_set_80 (by decide) ?_
            refine lv_icmp_ne (tgt := 98) hx hb dX2_set_81 (by decide) (fun c81 => absurd c81 (fun q => q (congrArg nI (show w = 5 by omega)))) (fun c81 => ?_)
            rw [nI_eq (by omega) (by omega)] at c81
            refine lv_iload_n hx hb dX2_set_84 rfl (lv_at hl 2 rfl) ?_
            refine lv_iconst (v := nI 0) hx hb dX2_set_85 (by decide) ?_
            refine lv_bipush (v := nI 20) hx hb dX2_set_86 (by decide) ?_
            refine kcallS (rest := []) F hA hI (mc_in l _ _ _ _) kgX2_57 hl.1 rfl rfl (Nat.le_of_ble_eq_true rfl) dX2_set_88 ⟨Nat.le_of_ble_eq_true rfl, Nat.le_of_ble_eq_true rfl⟩ ⟨Nat.le_of_ble_eq_true rfl, Nat.le_of_ble_eq_true rfl⟩ (fun vq uq H locs hp hI => ?_)
            obtain ⟨rfl, hu⟩ := hp
            rw [hu] at hI
            clear hu
            refine kstk (b := .int _ :: []) rfl ?_
            refine lv_if_eq (tgt := 98) hx hb dX2_set_91 (by decide) (fun c91 => absurd c91 (fun q => by rw [bI_z] at q; simp [q, c6, c21, c37, c52, c66] at h)) (fun c91 => ?_)
            refine lv_iconst (v := nI 1) hx hb dX2_set_94 (by decide) ?_
            refine lv_goto (tgt := 99) hx hb dX2_set_95 (by decide) ?_
            refine lv_istore_n (lv' := [(3, .int _), (0, .ref _), (1, .int _), (2, .int _)]) hx hb dX2_set_99 rfl hl (by decide) rfl (fun ls hl => ?_)
            refine lv_iload_n hx hb dX2_set_100 rfl (lv_at hl 0 rfl) ?_
            refine lv_if_ne (tgt := 106) hx hb dX2_set_101 (by decide) (fun c101 => ?_) (fun c101 => absurd c101 (by decide))
            exact fin _ _ _ hI (lv_sub hl [1, 2, 3] rfl)
          ·
            rw [nI_eq (by omega) (by omega)] at c66
            refine lv_iload_n hx hb dX2_set_69 rfl (lv_at hl 2 rfl) ?_
            refine lv_iconst (v := nI 1) hx hb dX2_set_70 (by decide) ?_
            refine lv_bipush (v := nI 20) hx hb dX2_set_71 (by decide) ?_
            refine kcallS (rest := []) F hA hI (mc_in l _ _ _ _) kgX2_57 hl.1 rfl rfl (Nat.le_of_ble_eq_true rfl) dX2_set_73 ⟨Nat.le_of_ble_eq_true rfl, Nat.le_of_ble_eq_true rfl⟩ ⟨Nat.le_of_ble_eq_true rfl, Nat.le_of_ble_eq_true rfl⟩ (fun vq uq H locs hp hI => ?_)
            obtain ⟨rfl, hu⟩ := hp
            rw [hu] at hI
            clear hu
            refine kstk (b := .int _ :: []) rfl ?_
            refine lv_goto (tgt := 99) hx hb dX2_set_76 (by decide) ?_
            refine lv_istore_n (lv' := [(3, .int _), (0, .ref _), (1, .int _), (2, .int _)]) hx hb dX2_set_99 rfl hl (by decide) rfl (fun ls hl => ?_)
            refine lv_iload_n hx hb dX2_set_100 rfl (lv_at hl 0 rfl) ?_
            refine lv_if_ne (tgt := 106) hx hb dX2_set_101 (by decide) (fun c101 => ?_) (fun c101 => absurd c101 (fun q => by rw [bI_z] at q; simp [q, c6, c21, c37, c52, c66] at h))
            exact fin _ _ _ hI (lv_sub hl [1, 2, 3] rfl)
        ·
          rw [nI_eq (by omega) (by omega)] at c52
          refine lv_iload_n hx hb dX2_set_55 rfl (lv_at hl 2 rfl) ?_
          refine lv_iconst (v := nI 0) hx hb dX2_set_56 (by decide) ?_
          refine lv_iconst (v := nI 1) hx hb dX2_set_57 (by decide) ?_
          refine kcallS (rest := []) F hA hI (mc_in l _ _ _ _) kgX2_57 hl.1 rfl rfl (Nat.le_of_ble_eq_true rfl) dX2_set_58 ⟨Nat.le_of_ble_eq_true rfl, Nat.le_of_ble_eq_true rfl⟩ ⟨Nat.le_of_ble_eq_true rfl, Nat.le_of_ble_eq_true rfl⟩ (fun vq uq H locs hp hI => ?_)
          obtain ⟨rfl, hu⟩ := hp
          rw [hu] at hI
          clear hu
          refine kstk (b := .int _ :: []) rfl ?_
          refine lv_goto (tgt := 99) hx hb dX2_set_61 (by decide) ?_
          refine lv_istore_n (lv' := [(3, .int _), (0, .ref _), (1, .int _), (2, .int _)]) hx hb dX2_set_99 rfl hl (by decide) rfl (fun ls hl => ?_)
          refine lv_iload_n hx hb dX2_set_100 rfl (lv_at hl 0 rfl) ?_
          refine lv_if_ne (tgt := 106) hx hb dX2_set_101 (by decide) (fun c101 => ?_) (fun c101 => absurd c101 (fun q => by rw [bI_z] at q; simp [q, c6, c21, c37, c52] at h))
          exact fin _ _ _ hI (lv_sub hl [1, 2, 3] rfl)
      ·
        rw [nI_eq (by omega) (by omega)] at c37
        refine lv_iload_n hx hb dX2_set_40 rfl (lv_at hl 2 rfl) ?_
        refine lv_iconst (v := nI 0) hx hb dX2_set_41 (by decide) ?_
        refine lv_bipush (v := nI 9) hx hb dX2_set_42 (by decide) ?_
        refine kcallS (rest := []) F hA hI (mc_in l _ _ _ _) kgX2_57 hl.1 rfl rfl (Nat.le_of_ble_eq_true rfl) dX2_set_44 ⟨Nat.le_of_ble_eq_true rfl, Nat.le_of_ble_eq_true rfl⟩ ⟨Nat.le_of_ble_eq_true rfl, Nat.le_of_ble_eq_true rfl⟩ (fun vq uq H locs hp hI => ?_)
        obtain ⟨rfl, hu⟩ := hp
        rw [hu] at hI
        clear hu
        refine kstk (b := .int _ :: []) rfl ?_
        refine lv_goto (tgt := 99) hx hb dX2_set_47 (by decide) ?_
        refine lv_istore_n (lv' := [(3, .int _), (0, .ref _), (1, .int _), (2, .int _)]) hx hb dX2_set_99 rfl hl (by decide) rfl (fun ls hl => ?_)
        refine lv_iload_n hx hb dX2_set_100 rfl (lv_at hl 0 rfl) ?_
        refine lv_if_ne (tgt := 106) hx hb dX2_set_101 (by decide) (fun c101 => ?_) (fun c101 => absurd c101 (fun q => by rw [bI_z] at q; simp [q, c6, c21, c37] at h))
        exact fin _ _ _ hI (lv_sub hl [1, 2, 3] rfl)
    ·
      rw [nI_eq (by omega) (by omega)] at c21
      refine lv_iload_n hx hb dX2_set_24 rfl (lv_at hl 2 rfl) ?_
      refine lv_iconst (v := nI 1) hx hb dX2_set_25 (by decide) ?_
      refine lv_sipush (v := nI 8000) hx hb dX2_set_26 (by decide) ?_
      refine kcallS (rest := []) F hA hI (mc_in l _ _ _ _) kgX2_57 hl.1 rfl rfl (Nat.le_of_ble_eq_true rfl) dX2_set_29 ⟨Nat.le_of_ble_eq_true rfl, Nat.le_of_ble_eq_true rfl⟩ ⟨Nat.le_of_ble_eq_true rfl, Nat.le_of_ble_eq_true rfl⟩ (fun vq uq H locs hp hI => ?_)
      obtain ⟨rfl, hu⟩ := hp
      rw [hu] at hI
      clear hu
      refine kstk (b := .int _ :: []) rfl ?_
      refine lv_goto (tgt := 99) hx hb dX2_set_32 (by decide) ?_
      refine lv_istore_n (lv' := [(3, .int _), (0, .ref _), (1, .int _), (2, .int _)]) hx hb dX2_set_99 rfl hl (by decide) rfl (fun ls hl => ?_)
      refine lv_iload_n hx hb dX2_set_100 rfl (lv_at hl 0 rfl) ?_
      refine lv_if_ne (tgt := 106) hx hb dX2_set_101 (by decide) (fun c101 => ?_) (fun c101 => absurd c101 (fun q => by rw [bI_z] at q; simp [q, c6, c21] at h))
      exact fin _ _ _ hI (lv_sub hl [1, 2, 3] rfl)
  ·
    rw [z0] at c6
    refine lv_iload_n hx hb dX2_set_9 rfl (lv_at hl 2 rfl) ?_
    refine lv_iconst (v := nI 1) hx hb dX2_set_10 (by decide) ?_
    refine lv_bipush (v := nI 9) hx hb dX2_set_11 (by decide) ?_
    refine kcallS (rest := []) F hA hI (mc_in l _ _ _ _) kgX2_57 hl.1 rfl rfl (Nat.le_of_ble_eq_true rfl) dX2_set_13 ⟨Nat.le_of_ble_eq_true rfl, Nat.le_of_ble_eq_true rfl⟩ ⟨Nat.le_of_ble_eq_true rfl, Nat.le_of_ble_eq_true rfl⟩ (fun vq uq H locs hp hI => ?_)
    obtain ⟨rfl, hu⟩ := hp
    rw [hu] at hI
    clear hu
    refine kstk (b := .int _ :: []) rfl ?_
    refine lv_goto (tgt := 99) hx hb dX2_set_16 (by decide) ?_
    refine lv_istore_n (lv' := [(3, .int _), (0, .ref _), (1, .int _), (2, .int _)]) hx hb dX2_set_99 rfl hl (by decide) rfl (fun ls hl => ?_)
    refine lv_iload_n hx hb dX2_set_100 rfl (lv_at hl 0 rfl) ?_
    refine lv_if_ne (tgt := 106) hx hb dX2_set_101 (by decide) (fun c101 => ?_) (fun c101 => absurd c101 (fun q => by rw [bI_z] at q; simp [q, c6] at h))
    exact fin _ _ _ hI (lv_sub hl [1, 2, 3] rfl)
end MC2
