/-! the class: keepers, ticks -/
def x_lose1 (st : XS) (k n : Nat) : XS := match st.2.1 0 n with
  | none => st
  | some a => if cf st a 3 = nI k then xinc (x_stop st n) 2 3 else st
def x_loseL (k : Nat) : Nat → Nat → XS → XS
  | 0, _, st => st
  | f + 1, n, st => x_loseL k f (n + 1) (x_lose1 st k n)
def x_move1 (st : XS) (n : Nat) : XS := match st.2.1 0 n with
  | none => st
  | some a => if hm (x_up st) n = cf st a 3 then st else xinc (xc st a 3 (hm (x_up st) n)) 2 4
def x_moveL : Nat → Nat → XS → XS
  | 0, _, st => st
  | f + 1, n, st => x_moveL f (n + 1) (x_move1 st n)
def x_kset (st : XS) (k : Nat) (up : Bool) : XS := xadd (xset st 0 k (bI up)) 2 12 (if up = true then nI 1 else -1)
def x_keeper (st : XS) (k : Nat) (up : Bool) : Int32 × XS :=
  if st.1 0 k = bI up then (nI 0, st) else (nI 1, x_moveL 100 0 (if up = true then x_kset st k up else x_loseL k 100 0 (x_kset st k up)))
def xwt (st : XS) : Prop := ∀ n, n < 100 → ∀ a, st.2.1 0 n = some a → a ∈ st.2.2.2.1 ∧ cf st a 0 = nI n
theorem xwt_lose1 {st : XS} (k n : Nat) (h : xwt st) : xwt (x_lose1 st k n) := by
  unfold x_lose1
  split
  · exact h
  · split
    · intro j hj a ha
      have e : (xinc (x_stop st n) 2 3).2.1 0 j = (va_up (st.2.1 0) n none) j := rfl
      rw [e] at ha
      by_cases q : j = n
      · subst q; rw [va_up_self] at ha; cases ha
      · rw [va_up_ne _ _ q] at ha; exact h j hj a ha
    · exact h
theorem xwt_loseL (k : Nat) : ∀ (f n : Nat) (st : XS), xwt st → xwt (x_loseL k f n st) := by
  intro f
  induction f with
  | zero => intro n st h; exact h
  | succ f ih => intro n st h; exact ih (n + 1) _ (xwt_lose1 k n h)
theorem xwt_move1 {st : XS} (n : Nat) (h : xwt st) : xwt (x_move1 st n) := by
  unfold x_move1
  split
  · exact h
  · split
    · exact h
    · intro j hj b hb
      exact ⟨(h j hj b hb).1, (cf_ne (by decide)).trans (h j hj b hb).2⟩
/-- what a tick needs of the state -/
def xokT (st : XS) : Prop := (∀ n, n < 100 → ∀ a, st.2.1 0 n = some a → a ∈ st.2.2.2.1 ∧ cf st a 0 = nI n ∧ ∃ sh z, sh < 5 ∧ z < 8192 ∧ cf st a 1 = nI sh ∧ cf st a 5 = nI z) ∧ ∃ e, e ≤ 20 ∧ st.1 2 2 = nI e
def x_tkK (st : XS) (n : Nat) : XS := match st.2.1 0 n with
  | none => st
  | some a => if st.1 2 0 - cf st a 2 < st.1 1 4 then st else x_dec st a true
def x_tkN : Nat → Nat → XS → XS
  | 0, _, st => st
  | f + 1, n, st => x_tkN f (n + 1) (x_tkK st n)
def x_tk1 (st : XS) : XS := x_tkN 100 0 (xinc st 2 0)
def x_tkL : Nat → XS → XS
  | 0, st => st
  | f + 1, st => x_tkL f (x_tk1 st)
theorem x_keepS_2 (st : XS) (a sh e : Nat) (w : Int32) : (x_keepS st a sh e w).2.2.2.1 = st.2.2.2.1 ∧ (x_keepS st a sh e w).2.1 0 = st.2.1 0 ∧ ∀ b f, f ≠ 10 → cf (x_keepS st a sh e w) b f = cf st b f := by
  unfold x_keepS
  split
  · exact ⟨rfl, rfl, fun _ _ _ => rfl⟩
  · exact ⟨rfl, rfl, fun b f hf => cf_ne (st := xinc (xrf st 2 e (some a)) 2 2) hf⟩
theorem x_keepS_e (st : XS) (a sh e : Nat) (w : Int32) (he : e ≤ 20) (h2 : st.1 2 2 = nI e) : ∃ e2, e2 ≤ 20 ∧ (x_keepS st a sh e w).1 2 2 = nI e2 := by
  unfold x_keepS
  split
  · exact ⟨e, he, by rw [xadd, xset_k (by omega)]; exact h2⟩
  · refine ⟨e + 1, by omega, ?_⟩
    rw [xadd, xset_k (by omega)]
    show (xinc (xrf st 2 e (some a)) 2 2).1 2 2 = _
    rw [xinc, xset_s]
    show st.1 2 2 + nI 1 = _
    rw [h2, nI_add]
theorem x_d2_2 (st : XS) (sh z : Nat) (tn : Bool) : (x_d2 st sh z tn).2 = st.2 := by
  unfold x_d2 x_tn
  split <;> rfl
theorem x_d2_e (st : XS) (sh z : Nat) (tn : Bool) : (x_d2 st sh z tn).1 2 2 = st.1 2 2 := by
  unfold x_d2 x_tn
  split
  · rw [xinc, xset_a, pk_un (by decide), xinc, xset_a, pk_un (by decide), xinc, xset_k (by decide), xinc, xset_k (by omega)]
  · rw [xinc, xset_a, pk_un (by decide), xinc, xset_k (by decide), xinc, xset_k (by omega)]
theorem x_decS_2 (st : XS) (a n sh z : Nat) (tn : Bool) (e : Nat) : (x_decS st a n sh z tn e).2.2.2.1 = st.2.2.2.1 ∧ (x_decS st a n sh z tn e).2.1 0 = va_up (st.2.1 0) n none ∧ ∀ b f, f < 7 ∨ f = 11 → cf (x_decS st a n sh z tn e) b f = cf st b f := by
  unfold x_decS
  have hw := x_only_weigh (x_d1 st a n tn) sh (nI z) tn
  generalize x_weigh (x_d1 st a n tn) sh (nI z) tn = w at hw ⊢
  have key : ∀ u : XS, u.2 = (xc w.2 a 8 w.1).2 → u.2.2.2.1 = st.2.2.2.1 ∧ u.2.1 0 = va_up (st.2.1 0) n none ∧ ∀ b f, f < 7 ∨ f = 11 → cf u b f = cf st b f := by
    intro u hu
    refine ⟨?_, ?_, fun b f hf => ?_⟩
    · rw [hu]; show w.2.2.2.2.1 = _; rw [hw.2.1]; rfl
    · rw [hu]; show w.2.2.1 0 = _; rw [hw.1]; rfl
    · unfold cf
      rw [hu]
      show cf (xc w.2 a 8 w.1) b f = _
      rw [cf_ne (by omega)]
      unfold cf
      rw [hw.2.1]
      show cf (x_d1 st a n tn) b f = _
      rw [x_d1, xcnow, cf_ne (by omega), cf_ne (by omega)]
      rfl
  have h1 := key _ (x_d2_2 (xc w.2 a 8 w.1) sh z tn)
  unfold x_fin
  split
  · exact h1
  · have h2 := x_keepS_2 (x_d2 (xc w.2 a 8 w.1) sh z tn) a sh e w.1
    exact ⟨h2.1.trans h1.1, h2.2.1.trans h1.2.1, fun b f hf => (h2.2.2 b f (by omega)).trans (h1.2.2 b f hf)⟩
theorem x_decS_e (st : XS) (a n sh z : Nat) (tn : Bool) (e : Nat) (he : e ≤ 20) (h2 : st.1 2 2 = nI e) : ∃ e2, e2 ≤ 20 ∧ (x_decS st a n sh z tn e).1 2 2 = nI e2 := by
  unfold x_decS
  have hw := x_only_weigh (x_d1 st a n tn) sh (nI z) tn
  generalize x_weigh (x_d1 st a n tn) sh (nI z) tn = w at hw ⊢
  have h1 : (x_d2 (xc w.2 a 8 w.1) sh z tn).1 2 2 = nI e := by
    rw [x_d2_e]
    show w.2.1 2 2 = _
    rw [hw.2.2 2 (by decide)]
    show (x_stop st n).1 2 2 = _
    rw [x_stop, xsub, xset_a, pk_un (by decide)]
    exact h2
  unfold x_fin
  split
  · exact ⟨e, he, h1⟩
  · exact x_keepS_e _ _ _ _ _ he h1
theorem xokT_dec {st : XS} {n a : Nat} (tn : Bool) (hn : n < 100) (ha : st.2.1 0 n = some a) (h : xokT st) : xokT (x_dec st a tn) := by
  obtain ⟨q1, q2, q3, z3, q4⟩ := h.1 n hn a ha
  obtain ⟨e, he, h2⟩ := h.2
  have hd : x_dec st a tn = x_decS st a n (cf st a 1).toNatClampNeg (cf st a 5).toNatClampNeg tn e := by rw [x_dec, q2, h2, nI_clamp (by omega), nI_clamp (by omega)]
  rw [hd]
  have k := x_decS_2 st a n (cf st a 1).toNatClampNeg (cf st a 5).toNatClampNeg tn e
  refine ⟨fun j hj b hb => ?_, x_decS_e _ _ _ _ _ _ _ he h2⟩
  rw [k.2.1] at hb
  by_cases e1 : j = n
  · subst e1; rw [va_up_self] at hb; cases hb
  · rw [va_up_ne _ _ e1] at hb
    obtain ⟨r1, r2, r3⟩ := h.1 j hj b hb
    rw [k.1, k.2.2 b 0 (by omega), k.2.2 b 1 (by omega), k.2.2 b 5 (by omega)]
    exact ⟨r1, r2, r3⟩
theorem xokT_now {st : XS} (h : xokT st) : xokT (xinc st 2 0) := by
  refine ⟨h.1, ?_⟩
  obtain ⟨e, he, h2⟩ := h.2
  exact ⟨e, he, by rw [xinc, xset_a, pk_un (by decide)]; exact h2⟩
theorem xokT_tkN : ∀ (f n : Nat) (st : XS), n + f = 100 → xokT st → xokT (x_tkN f n st) := by
  intro f
  induction f with
  | zero => intro n st _ h; exact h
  | succ f ih =>
    intro n st hn h
    refine ih (n + 1) _ (by omega) ?_
    unfold x_tkK
    split
    · exact h
    · split
      · exact h
      · exact xokT_dec (n := n) true (by omega) (by assumption) h
theorem xokT_tk1 {st : XS} (h : xokT st) : xokT (x_tk1 st) := by
  unfold x_tk1
  exact xokT_tkN 100 0 _ (by decide) (xokT_now h)
theorem x_tkL_s (f : Nat) (st : XS) : x_tkL (f + 1) st = x_tkL f (x_tk1 st) := by rw [x_tkL]
section XC4
variable (l : Launch) {D : va_G} {g : Nat → Nat} {K : Nat → ClassId}
theorem xc_lose (st : XS) (k : Nat) (hk : k < 4) (hok : xwt st) : kM l yX1_loseCallsAt cX1_loseCallsAt 4 none 1 21 0 0 D (xty K) (xw g K) [.ref (g 0), .int (nI k)] st (fun v u => v = none ∧ u = x_loseL k 100 0 st) := by
  refine kM_intro (by decide) (Nat.le_of_ble_eq_true rfl) ?_
  intro p e s m below meth c A ls F hA hI hl
  obtain ⟨hx, hb, hr, hml, hown, hts, hlk, hK, hnm⟩ := id F
  have hl : lv_has ls 4 [(0, .ref (g 0)), (1, .int (nI k))] := hl
  refine lv_iconst (v := nI 0) hx hb dX1_loseCallsAt_0 (by decide) ?_
  refine lv_istore_n (lv' := [(2, .int _), (0, .ref _), (1, .int _)]) hx hb dX1_loseCallsAt_1 rfl hl (by decide) rfl (fun ls hl => ?_)
  refine wloop (σ := Nat × Nat × XS) (fun x => x.1) (fun x H locs ls => x.2.1 + x.1 = 100 ∧ x_loseL k x.1 x.2.1 x.2.2 = x_loseL k 100 0 st ∧ xwt x.2.2 ∧ kI D (xw g K) A s.heap x.2.2 H locs ∧ lv_has ls 4 [(2, .int (nI x.2.1)), (0, .ref (g 0)), (1, .int (nI k))]) ?_ (100, 0, st) _ _ _ ⟨rfl, rfl, hok, hI, lv_sub hl [0, 1, 2] rfl⟩
  rintro ⟨f, n, u⟩ H locs ls ⟨hkn, he, hok, hI, hl⟩ ih
  dsimp only at hkn he hok hI hl ih
  cases f with
  | zero =>
    have he : u = x_loseL k 100 0 st := he
    refine lv_iload_n hx hb dX1_loseCallsAt_2 rfl (lv_at hl 0 rfl) ?_
    refine lv_bipush (v := nI 100) hx hb dX1_loseCallsAt_3 (by decide) ?_
    refine lv_icmp_ge (tgt := 48) hx hb dX1_loseCallsAt_5 (by decide) (fun c5 => ?_) (fun c5 => absurd c5 ((fun q => q (nI_le (by omega) (by omega)))))
    rw [nI_leI (by omega) (by omega)] at c5
    exact kret_v F hI dX1_loseCallsAt_48 (⟨rfl, he⟩)
  | succ f =>
    rcases ho : u.2.1 0 n with _ | a
    · have hl := hl
      refine lv_iload_n hx hb dX1_loseCallsAt_2 rfl (lv_at hl 0 rfl) ?_
      refine lv_bipush (v := nI 100) hx hb dX1_loseCallsAt_3 (by decide) ?_
      refine lv_icmp_ge (tgt := 48) hx hb dX1_loseCallsAt_5 (by decide) (fun c5 => absurd c5 ((nI_ge (show n < 100 by omega) (by decide)))) (fun c5 => ?_)
      rw [nI_leI (by omega) (by omega)] at c5
      refine lv_aload_n hx hb dX1_loseCallsAt_8 rfl (lv_at hl 1 rfl) ?_
      refine x_get F hI 5 (by decide) rfl flX1_38 dX1_loseCallsAt_9 ?_
      refine lv_iload_n hx hb dX1_loseCallsAt_12 rfl (lv_at hl 0 rfl) ?_
      refine x_rld F hI 0 (show n < 100 by omega) rfl dX1_loseCallsAt_13 ?_
      refine kstk (b := .null :: _) (by rw [ho]; rfl) ?_
      refine lv_astore_nN (lv' := [(3, .null), (2, .int _), (0, .ref _), (1, .int _)]) hx hb dX1_loseCallsAt_14 rfl hl (by decide) rfl (fun ls hl => ?_)
      refine lv_aload_nN hx hb dX1_loseCallsAt_15 rfl (lv_at hl 0 rfl) ?_
      refine lv_ifnullN (tgt := 42) hx hb dX1_loseCallsAt_16 (by decide) ?_
      refine lv_iinc (v := nI (n + 1)) (lv' := [(2, .int _), (3, .null), (0, .ref _), (1, .int _)]) hx hb dX1_loseCallsAt_42 hl (k := 1) rfl (kinc _ 1) (by decide) rfl (fun ls hl => ?_)
      refine lv_goto (tgt := 2) hx hb dX1_loseCallsAt_45 (by decide) ?_
      exact ih (f, n + 1, u) _ _ _ (by show f < f + 1; omega) ⟨by show n + 1 + f = _; omega, by rw [← he]; simp [x_loseL, x_lose1, ho], hok, hI, lv_sub hl [0, 2, 3] rfl⟩
    · obtain ⟨ha, h0⟩ := hok n (by omega) a ho
      have hok2 := xwt_lose1 k n hok
      refine lv_iload_n hx hb dX1_loseCallsAt_2 rfl (lv_at hl 0 rfl) ?_
      refine lv_bipush (v := nI 100) hx hb dX1_loseCallsAt_3 (by decide) ?_
      refine lv_icmp_ge (tgt := 48) hx hb dX1_loseCallsAt_5 (by decide) (fun c5 => absurd c5 ((nI_ge (show n < 100 by omega) (by decide)))) (fun c5 => ?_)
      rw [nI_leI (by omega) (by omega)] at c5
      refine lv_aload_n hx hb dX1_loseCallsAt_8 rfl (lv_at hl 1 rfl) ?_
      refine x_get F hI 5 (by decide) rfl flX1_38 dX1_loseCallsAt_9 ?_
      refine lv_iload_n hx hb dX1_loseCallsAt_12 rfl (lv_at hl 0 rfl) ?_
      refine x_rld F hI 0 (show n < 100 by omega) rfl dX1_loseCallsAt_13 ?_
      refine kstk (b := .ref a :: _) (by rw [ho]; rfl) ?_
      refine lv_astore_n (lv' := [(3, .ref _), (2, .int _), (0, .ref _), (1, .int _)]) hx hb dX1_loseCallsAt_14 rfl hl (by decide) rfl (fun ls hl => ?_)
      refine lv_aload_n hx hb dX1_loseCallsAt_15 rfl (lv_at hl 0 rfl) ?_
      refine lv_ifnull hx hb dX1_loseCallsAt_16 ?_
      refine lv_aload_n hx hb dX1_loseCallsAt_19 rfl (lv_at hl 0 rfl) ?_
      refine x_cget F hI ha 3 (by decide) rfl flX1_105 dX1_loseCallsAt_20 ?_
      refine lv_iload_n hx hb dX1_loseCallsAt_23 rfl (lv_at hl 3 rfl) ?_
      refine lv_icmp_ne (tgt := 42) hx hb dX1_loseCallsAt_24 (by decide) (fun c24 => ?_) (fun c24 => ?_)
      ·
        refine lv_iinc (v := nI (n + 1)) (lv' := [(2, .int _), (3, .ref _), (0, .ref _), (1, .int _)]) hx hb dX1_loseCallsAt_42 hl (k := 1) rfl (kinc _ 1) (by decide) rfl (fun ls hl => ?_)
        refine lv_goto (tgt := 2) hx hb dX1_loseCallsAt_45 (by decide) ?_
        exact ih (f, n + 1, u) _ _ _ (by show f < f + 1; omega) ⟨by show n + 1 + f = _; omega, by rw [← he]; simp [x_loseL, x_lose1, ho, c24], hok, hI, lv_sub hl [0, 2, 3] rfl⟩
      ·
        refine lv_aload_n hx hb dX1_loseCallsAt_27 rfl (lv_at hl 2 rfl) ?_
        refine lv_aload_n hx hb dX1_loseCallsAt_28 rfl (lv_at hl 0 rfl) ?_
        refine kcallV (rest := []) F hA hI (xc_stop l _ a n ha (by omega) h0) kgX1_152 (x_rec F hI) hl.1 rfl rfl (Nat.le_of_ble_eq_true rfl) dX1_loseCallsAt_29 ⟨Nat.le_of_ble_eq_true rfl, Nat.le_of_ble_eq_true rfl⟩ ⟨Nat.le_of_ble_eq_true rfl, Nat.le_of_ble_eq_true rfl⟩ (fun vq uq H locs hp hI => ?_)
        obtain ⟨rfl, hu⟩ := hp
        rw [hu] at hI
        clear hu
        refine kstk (b := []) rfl ?_
        refine lv_aload_n hx hb dX1_loseCallsAt_32 rfl (lv_at hl 2 rfl) ?_
        refine x_get F hI 2 (by decide) rfl flX1_25 dX1_loseCallsAt_33 ?_
        refine lv_iconst (v := nI 3) hx hb dX1_loseCallsAt_36 (by decide) ?_
        refine lv_dup2_11 hx hb dX1_loseCallsAt_37 rfl rfl ?_
        refine x_ald F hI 2 (show 3 < 13 by omega) rfl dX1_loseCallsAt_38 ?_
        refine lv_iconst (v := nI 1) hx hb dX1_loseCallsAt_39 (by decide) ?_
        refine lv_iadd hx hb dX1_loseCallsAt_40 ?_
        refine x_ast F hI 2 (show 3 < 13 by omega) rfl dX1_loseCallsAt_41 (fun H locs hI => ?_)
        have hI : kI D _ A s.heap (xinc (x_stop u n) 2 3) H locs := hI
        generalize hS41 : xinc (x_stop u n) 2 3 = S41 at hI
        refine lv_iinc (v := nI (n + 1)) (lv' := [(2, .int _), (3, .ref _), (0, .ref _), (1, .int _)]) hx hb dX1_loseCallsAt_42 hl (k := 1) rfl (kinc _ 1) (by decide) rfl (fun ls hl => ?_)
        refine lv_goto (tgt := 2) hx hb dX1_loseCallsAt_45 (by decide) ?_
        exact ih (f, n + 1, S41) _ _ _ (by show f < f + 1; omega) ⟨by show n + 1 + f = _; omega, by rw [← he]; simp [x_loseL, x_lose1, ho, c24, hS41], by rw [← hS41]; simpa [x_lose1, ho, c24] using hok2, hI, lv_sub hl [0, 2, 3] rfl⟩
theorem xc_move (st : XS) (hok : xwt st) : kM l yX1_moveCallsHome cX1_moveCallsHome 4 none 1 25 0 0 D (xty K) (xw g K) [.ref (g 0)] st (fun v u => v = none ∧ u = x_moveL 100 0 st) := by
  refine kM_intro (by decide) (Nat.le_of_ble_eq_true rfl) ?_
  intro p e s m below meth c A ls F hA hI hl
  obtain ⟨hx, hb, hr, hml, hown, hts, hlk, hK, hnm⟩ := id F
  have hl : lv_has ls 4 [(0, .ref (g 0))] := hl
  refine lv_iconst (v := nI 0) hx hb dX1_moveCallsHome_0 (by decide) ?_
  refine lv_istore_n (lv' := [(1, .int _), (0, .ref _)]) hx hb dX1_moveCallsHome_1 rfl hl (by decide) rfl (fun ls hl => ?_)
  refine wloop (σ := Nat × Nat × XS) (fun x => x.1) (fun x H locs ls => x.2.1 + x.1 = 100 ∧ x_moveL x.1 x.2.1 x.2.2 = x_moveL 100 0 st ∧ xwt x.2.2 ∧ kI D (xw g K) A s.heap x.2.2 H locs ∧ lv_has ls 4 [(1, .int (nI x.2.1)), (0, .ref (g 0))]) ?_ (100, 0, st) _ _ _ ⟨rfl, rfl, hok, hI, lv_sub hl [0, 1] rfl⟩
  rintro ⟨f, n, u⟩ H locs ls ⟨hkn, he, hok, hI, hl⟩ ih
  dsimp only at hkn he hok hI hl ih
  cases f with
  | zero =>
    have he : u = x_moveL 100 0 st := he
    refine lv_iload_n hx hb dX1_moveCallsHome_2 rfl (lv_at hl 0 rfl) ?_
    refine lv_bipush (v := nI 100) hx hb dX1_moveCallsHome_3 (by decide) ?_
    refine lv_icmp_ge (tgt := 57) hx hb dX1_moveCallsHome_5 (by decide) (fun c5 => ?_) (fun c5 => absurd c5 ((fun q => q (nI_le (by omega) (by omega)))))
    rw [nI_leI (by omega) (by omega)] at c5
    exact kret_v F hI dX1_moveCallsHome_57 (⟨rfl, he⟩)
  | succ f =>
    rcases ho : u.2.1 0 n with _ | a
    · have hl := hl
      refine lv_iload_n hx hb dX1_moveCallsHome_2 rfl (lv_at hl 0 rfl) ?_
      refine lv_bipush (v := nI 100) hx hb dX1_moveCallsHome_3 (by decide) ?_
      refine lv_icmp_ge (tgt := 57) hx hb dX1_moveCallsHome_5 (by decide) (fun c5 => absurd c5 ((nI_ge (show n < 100 by omega) (by decide)))) (fun c5 => ?_)
      rw [nI_leI (by omega) (by omega)] at c5
      refine lv_aload_n hx hb dX1_moveCallsHome_8 rfl (lv_at hl 1 rfl) ?_
      refine x_get F hI 5 (by decide) rfl flX1_38 dX1_moveCallsHome_9 ?_
      refine lv_iload_n hx hb dX1_moveCallsHome_12 rfl (lv_at hl 0 rfl) ?_
      refine x_rld F hI 0 (show n < 100 by omega) rfl dX1_moveCallsHome_13 ?_
      refine kstk (b := .null :: _) (by rw [ho]; rfl) ?_
      refine lv_astore_nN (lv' := [(2, .null), (1, .int _), (0, .ref _)]) hx hb dX1_moveCallsHome_14 rfl hl (by decide) rfl (fun ls hl => ?_)
      refine lv_aload_nN hx hb dX1_moveCallsHome_15 rfl (lv_at hl 0 rfl) ?_
      refine lv_ifnonnullN hx hb dX1_moveCallsHome_16 ?_
      refine lv_goto (tgt := 51) hx hb dX1_moveCallsHome_19 (by decide) ?_
      refine lv_iinc (v := nI (n + 1)) (lv' := [(1, .int _), (2, .null), (0, .ref _)]) hx hb dX1_moveCallsHome_51 hl (k := 1) rfl (kinc _ 1) (by decide) rfl (fun ls hl => ?_)
      refine lv_goto (tgt := 2) hx hb dX1_moveCallsHome_54 (by decide) ?_
      exact ih (f, n + 1, u) _ _ _ (by show f < f + 1; omega) ⟨by show n + 1 + f = _; omega, by rw [← he]; simp [x_moveL, x_move1, ho], hok, hI, lv_sub hl [0, 2] rfl⟩
    · obtain ⟨ha, h0⟩ := hok n (by omega) a ho
      have hok2 := xwt_move1 n hok
      refine lv_iload_n hx hb dX1_moveCallsHome_2 rfl (lv_at hl 0 rfl) ?_
      refine lv_bipush (v := nI 100) hx hb dX1_moveCallsHome_3 (by decide) ?_
      refine lv_icmp_ge (tgt := 57) hx hb dX1_moveCallsHome_5 (by decide) (fun c5 => absurd c5 ((nI_ge (show n < 100 by omega) (by decide)))) (fun c5 => ?_)
      rw [nI_leI (by omega) (by omega)] at c5
      refine lv_aload_n hx hb dX1_moveCallsHome_8 rfl (lv_at hl 1 rfl) ?_
      refine x_get F hI 5 (by decide) rfl flX1_38 dX1_moveCallsHome_9 ?_
      refine lv_iload_n hx hb dX1_moveCallsHome_12 rfl (lv_at hl 0 rfl) ?_
      refine x_rld F hI 0 (show n < 100 by omega) rfl dX1_moveCallsHome_13 ?_
      refine kstk (b := .ref a :: _) (by rw [ho]; rfl) ?_
      refine lv_astore_n (lv' := [(2, .ref _), (1, .int _), (0, .ref _)]) hx hb dX1_moveCallsHome_14 rfl hl (by decide) rfl (fun ls hl => ?_)
      refine lv_aload_n hx hb dX1_moveCallsHome_15 rfl (lv_at hl 0 rfl) ?_
      refine lv_ifnonnull (tgt := 22) hx hb dX1_moveCallsHome_16 (by decide) ?_
      refine lv_aload_n hx hb dX1_moveCallsHome_22 rfl (lv_at hl 2 rfl) ?_
      refine lv_iload_n hx hb dX1_moveCallsHome_23 rfl (lv_at hl 1 rfl) ?_
      refine kcallV (rest := []) F hA hI (xc_homeOf l _ n (by omega)) kgX1_63 (x_rec F hI) hl.1 rfl rfl (Nat.le_of_ble_eq_true rfl) dX1_moveCallsHome_24 ⟨Nat.le_of_ble_eq_true rfl, Nat.le_of_ble_eq_true rfl⟩ ⟨Nat.le_of_ble_eq_true rfl, Nat.le_of_ble_eq_true rfl⟩ (fun vq uq H locs hp hI => ?_)
      obtain ⟨rfl, hu⟩ := hp
      rw [hu] at hI
      clear hu
      refine kstk (b := .int _ :: []) rfl ?_
      refine lv_istore_n (lv' := [(3, .int _), (2, .ref _), (1, .int _), (0, .ref _)]) hx hb dX1_moveCallsHome_27 rfl hl (by decide) rfl (fun ls hl => ?_)
      refine lv_iload_n hx hb dX1_moveCallsHome_28 rfl (lv_at hl 0 rfl) ?_
      refine lv_aload_n hx hb dX1_moveCallsHome_29 rfl (lv_at hl 1 rfl) ?_
      refine x_cget F hI ha 3 (by decide) rfl flX1_105 dX1_moveCallsHome_30 ?_
      refine lv_icmp_eq (tgt := 51) hx hb dX1_moveCallsHome_33 (by decide) (fun c33 => ?_) (fun c33 => ?_)
      ·
        refine lv_iinc (v := nI (n + 1)) (lv' := [(1, .int _), (3, .int _), (2, .ref _), (0, .ref _)]) hx hb dX1_moveCallsHome_51 hl (k := 2) rfl (kinc _ 1) (by decide) rfl (fun ls hl => ?_)
        refine lv_goto (tgt := 2) hx hb dX1_moveCallsHome_54 (by decide) ?_
        exact ih (f, n + 1, u) _ _ _ (by show f < f + 1; omega) ⟨by show n + 1 + f = _; omega, by rw [← he]; simp [x_moveL, x_move1, ho, c33], hok, hI, lv_sub hl [0, 3] rfl⟩
      ·
        refine lv_aload_n hx hb dX1_moveCallsHome_36 rfl (lv_at hl 1 rfl) ?_
        refine lv_iload_n hx hb dX1_moveCallsHome_37 rfl (lv_at hl 0 rfl) ?_
        refine x_cput (ty := .int) F hI ha 3 (by decide) rfl flX1_105 (by decide +kernel) rfl rfl rfl dX1_moveCallsHome_38 (fun H locs hI => ?_)
        have hI : kI D _ A s.heap (xc u a 3 (hm (x_up u) n)) H locs := hI
        generalize hS38 : xc u a 3 (hm (x_up u) n) = S38 at hI
        refine lv_aload_n hx hb dX1_moveCallsHome_41 rfl (lv_at hl 3 rfl) ?_
        refine x_get F hI 2 (by decide) rfl flX1_25 dX1_moveCallsHome_42 ?_
        refine lv_iconst (v := nI 4) hx hb dX1_moveCallsHome_45 (by decide) ?_
        refine lv_dup2_11 hx hb dX1_moveCallsHome_46 rfl rfl ?_
        refine x_ald F hI 2 (show 4 < 13 by omega) rfl dX1_moveCallsHome_47 ?_
        refine lv_iconst (v := nI 1) hx hb dX1_moveCallsHome_48 (by decide) ?_
        refine lv_iadd hx hb dX1_moveCallsHome_49 ?_
        refine x_ast F hI 2 (show 4 < 13 by omega) rfl dX1_moveCallsHome_50 (fun H locs hI => ?_)
        have hI : kI D _ A s.heap (xinc S38 2 4) H locs := hI
        generalize hS50 : xinc S38 2 4 = S50 at hI
        refine lv_iinc (v := nI (n + 1)) (lv' := [(1, .int _), (3, .int _), (2, .ref _), (0, .ref _)]) hx hb dX1_moveCallsHome_51 hl (k := 2) rfl (kinc _ 1) (by decide) rfl (fun ls hl => ?_)
        refine lv_goto (tgt := 2) hx hb dX1_moveCallsHome_54 (by decide) ?_
        exact ih (f, n + 1, S50) _ _ _ (by show f < f + 1; omega) ⟨by show n + 1 + f = _; omega, by rw [← he]; simp [x_moveL, x_move1, ho, c33, hS38, hS50], by rw [← hS50, ← hS38]; simpa [x_move1, ho, c33] using hok2, hI, lv_sub hl [0, 3] rfl⟩
theorem xc_keeper_bad (st : XS) (x : Int32) (up : Bool) (h : decide (¬ x < 0 ∧ ¬ nI 4 ≤ x) = false) : kM l yX1_keeper cX1_keeper 3 (some .int) 2 48 0 0 D (xty K) (xw g K) [.ref (g 0), .int x, .int (bI up)] st (fun v u => v = some (.int (-1)) ∧ u = st) := by
  refine kM_intro (by decide) (Nat.le_of_ble_eq_true rfl) ?_
  intro p e s m below meth c A ls F hA hI hl
  obtain ⟨hx, hb, hr, hml, hown, hts, hlk, hK, hnm⟩ := id F
  have hl : lv_has ls 3 [(0, .ref (g 0)), (1, .int x), (2, .int (bI up))] := hl
  refine lv_iload_n hx hb dX1_keeper_0 rfl (lv_at hl 1 rfl) ?_
  refine lv_iconst (v := nI 4) hx hb dX1_keeper_1 (by decide) ?_
  refine kcallS (rest := []) F hA hI (xc_isBelow l _ _ _) kgX1_52 hl.1 rfl rfl (Nat.le_of_ble_eq_true rfl) dX1_keeper_2 ⟨Nat.le_of_ble_eq_true rfl, Nat.le_of_ble_eq_true rfl⟩ ⟨Nat.le_of_ble_eq_true rfl, Nat.le_of_ble_eq_true rfl⟩ (fun vq uq H locs hp hI => ?_)
  obtain ⟨rfl, hu⟩ := hp
  rw [hu] at hI
  clear hu
  refine kstk (b := .int _ :: []) rfl ?_
  refine lv_if_ne (tgt := 10) hx hb dX1_keeper_5 (by decide) (fun c5 => absurd c5 ((fun q => q (bI_z.mpr h)))) (fun c5 => ?_)
  refine lv_iconst (v := -1) hx hb dX1_keeper_8 (by decide) ?_
  exact kret_i F hI dX1_keeper_9 (⟨rfl, rfl⟩)
theorem xc_keeper (st : XS) (k : Nat) (up : Bool) (hk : k < 4) (hok : xwt st) : kM l yX1_keeper cX1_keeper 3 (some .int) 2 48 0 0 D (xty K) (xw g K) [.ref (g 0), .int (nI k), .int (bI up)] st (fun v u => v = some (.int (x_keeper st k up).1) ∧ u = (x_keeper st k up).2) := by
  have h : decide (¬ nI k < 0 ∧ ¬ nI 4 ≤ nI k) = true := isB_t (by omega) (by decide)
  refine kM_intro (by decide) (Nat.le_of_ble_eq_true rfl) ?_
  intro p e s m below meth c A ls F hA hI hl
  obtain ⟨hx, hb, hr, hml, hown, hts, hlk, hK, hnm⟩ := id F
  have hl : lv_has ls 3 [(0, .ref (g 0)), (1, .int (nI k)), (2, .int (bI up))] := hl
  have h57 : ∀ (u : XS) (H : Heap) (locs : List Loc) (ls : Array Slot), kI D (xw g K) A s.heap u H locs → ¬ st.1 0 k = bI up → xwt u → (u = if up = true then x_kset st k up else x_loseL k 100 0 (x_kset st k up)) → lv_has ls 3 [(0, .ref (g 0)), (1, .int (nI k)), (2, .int (bI up))] → W p l e { frames := 2, cells := 0, slots := 0, locals := 48 } s m #[.ref (g 0), .int (nI k), .int (bI up)] below meth c H locs 0 0 (MQ below (kQ D (xty K) (xw g K) (fun v u => v = some (.int (x_keeper st k up).1) ∧ u = (x_keeper st k up).2) A) #[.ref (g 0), .int (nI k), .int (bI up)] s 0 0 A) (F0 m 57 ls []) := by
    intro u H locs ls hI hd hok hu hl
    refine lv_aload_n hx hb dX1_keeper_57 rfl (lv_at hl 0 rfl) ?_
    refine kcallV (rest := []) F hA hI (xc_move l _ hok) kgX1_60 (x_rec F hI) hl.1 rfl rfl (Nat.le_of_ble_eq_true rfl) dX1_keeper_58 ⟨Nat.le_of_ble_eq_true rfl, Nat.le_of_ble_eq_true rfl⟩ ⟨Nat.le_of_ble_eq_true rfl, Nat.le_of_ble_eq_true rfl⟩ (fun vq uq H locs hp hI => ?_)
    obtain ⟨rfl, hu⟩ := hp
    rw [hu] at hI
    clear hu
    refine kstk (b := []) rfl ?_
    refine lv_iconst (v := nI 1) hx hb dX1_keeper_61 (by decide) ?_
    exact kret_i F hI dX1_keeper_62 (⟨by simp [x_keeper, hd], by simp only [x_keeper, hd, if_false]; rw [← hu]⟩)
  cases up
  · have hl := hl
    refine lv_iload_n hx hb dX1_keeper_0 rfl (lv_at hl 1 rfl) ?_
    refine lv_iconst (v := nI 4) hx hb dX1_keeper_1 (by decide) ?_
    refine kcallS (rest := []) F hA hI (xc_isBelow l _ _ _) kgX1_52 hl.1 rfl rfl (Nat.le_of_ble_eq_true rfl) dX1_keeper_2 ⟨Nat.le_of_ble_eq_true rfl, Nat.le_of_ble_eq_true rfl⟩ ⟨Nat.le_of_ble_eq_true rfl, Nat.le_of_ble_eq_true rfl⟩ (fun vq uq H locs hp hI => ?_)
    obtain ⟨rfl, hu⟩ := hp
    rw [hu] at hI
    clear hu
    refine kstk (b := .int _ :: []) rfl ?_
    refine lv_if_ne (tgt := 10) hx hb dX1_keeper_5 (by decide) (fun c5 => ?_) (fun c5 => absurd c5 ((fun q => by rw [bI_z, h] at q; cases q)))
    refine lv_aload_n hx hb dX1_keeper_10 rfl (lv_at hl 0 rfl) ?_
    refine x_get F hI 0 (by decide) rfl flX1_9 dX1_keeper_11 ?_
    refine lv_iload_n hx hb dX1_keeper_14 rfl (lv_at hl 1 rfl) ?_
    refine x_zald F hI 0 (show k < 4 by omega) rfl dX1_keeper_15 ?_
    refine lv_iload_n hx hb dX1_keeper_16 rfl (lv_at hl 2 rfl) ?_
    refine lv_icmp_ne (tgt := 22) hx hb dX1_keeper_17 (by decide) (fun c17 => ?_) (fun c17 => ?_)
    ·
      refine lv_aload_n hx hb dX1_keeper_22 rfl (lv_at hl 0 rfl) ?_
      refine x_get F hI 0 (by decide) rfl flX1_9 dX1_keeper_23 ?_
      refine lv_iload_n hx hb dX1_keeper_26 rfl (lv_at hl 1 rfl) ?_
      refine lv_iload_n hx hb dX1_keeper_27 rfl (lv_at hl 2 rfl) ?_
      refine x_zast F hI 0 (show k < 4 by omega) rfl (bI_narz false) dX1_keeper_28 (fun H locs hI => ?_)
      refine lv_aload_n hx hb dX1_keeper_29 rfl (lv_at hl 0 rfl) ?_
      refine x_get F hI 2 (by decide) rfl flX1_25 dX1_keeper_30 ?_
      refine lv_bipush (v := nI 12) hx hb dX1_keeper_33 (by decide) ?_
      refine lv_dup2_11 hx hb dX1_keeper_35 rfl rfl ?_
      refine x_ald F hI 2 (show 12 < 13 by omega) rfl dX1_keeper_36 ?_
      refine lv_iload_n hx hb dX1_keeper_37 rfl (lv_at hl 2 rfl) ?_
      refine lv_if_eq (tgt := 45) hx hb dX1_keeper_38 (by decide) (fun c38 => ?_) (fun c38 => absurd c38 ((fun q => q rfl)))
      refine lv_iconst (v := -1) hx hb dX1_keeper_45 (by decide) ?_
      refine lv_iadd hx hb dX1_keeper_46 ?_
      refine x_ast F hI 2 (show 12 < 13 by omega) rfl dX1_keeper_47 (fun H locs hI => ?_)
      have hI : kI D _ A s.heap (x_kset st k false) H locs := hI
      generalize hS47 : x_kset st k false = S47 at hI
      refine lv_iload_n hx hb dX1_keeper_48 rfl (lv_at hl 2 rfl) ?_
      refine lv_if_ne (tgt := 57) hx hb dX1_keeper_49 (by decide) (fun c49 => absurd c49 ((fun q => q rfl))) (fun c49 => ?_)
      refine lv_aload_n hx hb dX1_keeper_52 rfl (lv_at hl 0 rfl) ?_
      refine lv_iload_n hx hb dX1_keeper_53 rfl (lv_at hl 1 rfl) ?_
      have hok7 : xwt S47 := by rw [← hS47]; exact hok
      refine kcallV (rest := []) F hA hI (xc_lose l _ k hk hok7) kgX1_56 (x_rec F hI) hl.1 rfl rfl (Nat.le_of_ble_eq_true rfl) dX1_keeper_54 ⟨Nat.le_of_ble_eq_true rfl, Nat.le_of_ble_eq_true rfl⟩ ⟨Nat.le_of_ble_eq_true rfl, Nat.le_of_ble_eq_true rfl⟩ (fun vq uq H locs hp hI => ?_)
      obtain ⟨rfl, hu⟩ := hp
      rw [hu] at hI
      clear hu
      refine kstk (b := []) rfl ?_
      exact h57 _ _ _ _ hI c17 (xwt_loseL k 100 0 _ hok7) (by rw [if_neg (by decide), hS47]) hl
    ·
      refine lv_iconst (v := nI 0) hx hb dX1_keeper_20 (by decide) ?_
      exact kret_i F hI dX1_keeper_21 (⟨by simp [x_keeper, c17], by simp [x_keeper, c17]⟩)
  · have hl := hl
    refine lv_iload_n hx hb dX1_keeper_0 rfl (lv_at hl 1 rfl) ?_
    refine lv_iconst (v := nI 4) hx hb dX1_keeper_1 (by decide) ?_
    refine kcallS (rest := []) F hA hI (xc_isBelow l _ _ _) kgX1_52 hl.1 rfl rfl (Nat.le_of_ble_eq_true rfl) dX1_keeper_2 ⟨Nat.le_of_ble_eq_true rfl, Nat.le_of_ble_eq_true rfl⟩ ⟨Nat.le_of_ble_eq_true rfl, Nat.le_of_ble_eq_true rfl⟩ (fun vq uq H locs hp hI => ?_)
    obtain ⟨rfl, hu⟩ := hp
    rw [hu] at hI
    clear hu
    refine kstk (b := .int _ :: []) rfl ?_
    refine lv_if_ne (tgt := 10) hx hb dX1_keeper_5 (by decide) (fun c5 => ?_) (fun c5 => absurd c5 ((fun q => by rw [bI_z, h] at q; cases q)))
    refine lv_aload_n hx hb dX1_keeper_10 rfl (lv_at hl 0 rfl) ?_
    refine x_get F hI 0 (by decide) rfl flX1_9 dX1_keeper_11 ?_
    refine lv_iload_n hx hb dX1_keeper_14 rfl (lv_at hl 1 rfl) ?_
    refine x_zald F hI 0 (show k < 4 by omega) rfl dX1_keeper_15 ?_
    refine lv_iload_n hx hb dX1_keeper_16 rfl (lv_at hl 2 rfl) ?_
    refine lv_icmp_ne (tgt := 22) hx hb dX1_keeper_17 (by decide) (fun c17 => ?_) (fun c17 => ?_)
    ·
      refine lv_aload_n hx hb dX1_keeper_22 rfl (lv_at hl 0 rfl) ?_
      refine x_get F hI 0 (by decide) rfl flX1_9 dX1_keeper_23 ?_
      refine lv_iload_n hx hb dX1_keeper_26 rfl (lv_at hl 1 rfl) ?_
      refine lv_iload_n hx hb dX1_keeper_27 rfl (lv_at hl 2 rfl) ?_
      refine x_zast F hI 0 (show k < 4 by omega) rfl (bI_narz true) dX1_keeper_28 (fun H locs hI => ?_)
      refine lv_aload_n hx hb dX1_keeper_29 rfl (lv_at hl 0 rfl) ?_
      refine x_get F hI 2 (by decide) rfl flX1_25 dX1_keeper_30 ?_
      refine lv_bipush (v := nI 12) hx hb dX1_keeper_33 (by decide) ?_
      refine lv_dup2_11 hx hb dX1_keeper_35 rfl rfl ?_
      refine x_ald F hI 2 (show 12 < 13 by omega) rfl dX1_keeper_36 ?_
      refine lv_iload_n hx hb dX1_keeper_37 rfl (lv_at hl 2 rfl) ?_
      refine lv_if_eq (tgt := 45) hx hb dX1_keeper_38 (by decide) (fun c38 => absurd c38 ((by decide))) (fun c38 => ?_)
      refine lv_iconst (v := nI 1) hx hb dX1_keeper_41 (by decide) ?_
      refine lv_goto (tgt := 46) hx hb dX1_keeper_42 (by decide) ?_
      refine lv_iadd hx hb dX1_keeper_46 ?_
      refine x_ast F hI 2 (show 12 < 13 by omega) rfl dX1_keeper_47 (fun H locs hI => ?_)
      have hI : kI D _ A s.heap (x_kset st k true) H locs := hI
      generalize hS47 : x_kset st k true = S47 at hI
      refine lv_iload_n hx hb dX1_keeper_48 rfl (lv_at hl 2 rfl) ?_
      refine lv_if_ne (tgt := 57) hx hb dX1_keeper_49 (by decide) (fun c49 => ?_) (fun c49 => absurd c49 ((by decide)))
      exact h57 _ _ _ _ hI c17 (by rw [← hS47]; exact hok) (by rw [← hS47]; rfl) hl
    ·
      refine lv_iconst (v := nI 0) hx hb dX1_keeper_20 (by decide) ?_
      exact kret_i F hI dX1_keeper_21 (⟨by simp [x_keeper, c17], by simp [x_keeper, c17]⟩)
theorem xc_home_bad (st : XS) (x : Int32) (h : decide (¬ x < 0 ∧ ¬ nI 100 ≤ x) = false) : kM l yX1_home cX1_home 2 (some .int) 1 25 0 0 D (xty K) (xw g K) [.ref (g 0), .int x] st (fun v u => v = some (.int (-1)) ∧ u = st) := by
  refine kM_intro (by decide) (Nat.le_of_ble_eq_true rfl) ?_
  intro p e s m below meth c A ls F hA hI hl
  obtain ⟨hx, hb, hr, hml, hown, hts, hlk, hK, hnm⟩ := id F
  have hl : lv_has ls 2 [(0, .ref (g 0)), (1, .int x)] := hl
  refine lv_iload_n hx hb dX1_home_0 rfl (lv_at hl 1 rfl) ?_
  refine lv_bipush (v := nI 100) hx hb dX1_home_1 (by decide) ?_
  refine kcallS (rest := []) F hA hI (xc_isBelow l _ _ _) kgX1_52 hl.1 rfl rfl (Nat.le_of_ble_eq_true rfl) dX1_home_3 ⟨Nat.le_of_ble_eq_true rfl, Nat.le_of_ble_eq_true rfl⟩ ⟨Nat.le_of_ble_eq_true rfl, Nat.le_of_ble_eq_true rfl⟩ (fun vq uq H locs hp hI => ?_)
  obtain ⟨rfl, hu⟩ := hp
  rw [hu] at hI
  clear hu
  refine kstk (b := .int _ :: []) rfl ?_
  refine lv_if_eq (tgt := 17) hx hb dX1_home_6 (by decide) (fun c6 => ?_) (fun c6 => absurd c6 ((fun q => q (bI_z.mpr h))))
  refine lv_iconst (v := -1) hx hb dX1_home_17 (by decide) ?_
  exact kret_i F hI dX1_home_18 (⟨rfl, rfl⟩)
theorem xc_home (st : XS) (n : Nat) (hn : n < 100) : kM l yX1_home cX1_home 2 (some .int) 1 25 0 0 D (xty K) (xw g K) [.ref (g 0), .int (nI n)] st (fun v u => v = some (.int (hm (x_up st) n)) ∧ u = st) := by
  have h := isB_t (show n < 100 by omega) (by decide)
  refine kM_intro (by decide) (Nat.le_of_ble_eq_true rfl) ?_
  intro p e s m below meth c A ls F hA hI hl
  obtain ⟨hx, hb, hr, hml, hown, hts, hlk, hK, hnm⟩ := id F
  have hl : lv_has ls 2 [(0, .ref (g 0)), (1, .int (nI n))] := hl
  refine lv_iload_n hx hb dX1_home_0 rfl (lv_at hl 1 rfl) ?_
  refine lv_bipush (v := nI 100) hx hb dX1_home_1 (by decide) ?_
  refine kcallS (rest := []) F hA hI (xc_isBelow l _ _ _) kgX1_52 hl.1 rfl rfl (Nat.le_of_ble_eq_true rfl) dX1_home_3 ⟨Nat.le_of_ble_eq_true rfl, Nat.le_of_ble_eq_true rfl⟩ ⟨Nat.le_of_ble_eq_true rfl, Nat.le_of_ble_eq_true rfl⟩ (fun vq uq H locs hp hI => ?_)
  obtain ⟨rfl, hu⟩ := hp
  rw [hu] at hI
  clear hu
  refine kstk (b := .int _ :: []) rfl ?_
  refine lv_if_eq (tgt := 17) hx hb dX1_home_6 (by decide) (fun c6 => absurd c6 ((fun q => by rw [bI_z, h] at q; cases q))) (fun c6 => ?_)
  refine lv_aload_n hx hb dX1_home_9 rfl (lv_at hl 0 rfl) ?_
  refine lv_iload_n hx hb dX1_home_10 rfl (lv_at hl 1 rfl) ?_
  refine kcallV (rest := []) F hA hI (xc_homeOf l _ n hn) kgX1_63 (x_rec F hI) hl.1 rfl rfl (Nat.le_of_ble_eq_true rfl) dX1_home_11 ⟨Nat.le_of_ble_eq_true rfl, Nat.le_of_ble_eq_true rfl⟩ ⟨Nat.le_of_ble_eq_true rfl, Nat.le_of_ble_eq_true rfl⟩ (fun vq uq H locs hp hI => ?_)
  obtain ⟨rfl, hu⟩ := hp
  rw [hu] at hI
  clear hu
  refine kstk (b := .int _ :: []) rfl ?_
  refine lv_goto (tgt := 18) hx hb dX1_home_14 (by decide) ?_
  exact kret_i F hI dX1_home_18 (⟨rfl, rfl⟩)
theorem xc_tick1 (st : XS) (hok : xokT st) : kM l yX1_passOneTick cX1_passOneTick 3 none 5 107 0 0 D (xty K) (xw g K) [.ref (g 0)] st (fun v u => v = none ∧ u = x_tk1 st) := by
  refine kM_intro (by decide) (Nat.le_of_ble_eq_true rfl) ?_
  intro p e s m below meth c A ls F hA hI hl
  obtain ⟨hx, hb, hr, hml, hown, hts, hlk, hK, hnm⟩ := id F
  have hl : lv_has ls 3 [(0, .ref (g 0))] := hl
  refine lv_aload_n hx hb dX1_passOneTick_0 rfl (lv_at hl 0 rfl) ?_
  refine x_get F hI 2 (by decide) rfl flX1_25 dX1_passOneTick_1 ?_
  refine lv_iconst (v := nI 0) hx hb dX1_passOneTick_4 (by decide) ?_
  refine lv_dup2_11 hx hb dX1_passOneTick_5 rfl rfl ?_
  refine x_ald F hI 2 (show 0 < 13 by omega) rfl dX1_passOneTick_6 ?_
  refine lv_iconst (v := nI 1) hx hb dX1_passOneTick_7 (by decide) ?_
  refine lv_iadd hx hb dX1_passOneTick_8 ?_
  refine x_ast F hI 2 (show 0 < 13 by omega) rfl dX1_passOneTick_9 (fun H locs hI => ?_)
  refine lv_iconst (v := nI 0) hx hb dX1_passOneTick_10 (by decide) ?_
  refine lv_istore_n (lv' := [(1, .int _), (0, .ref _)]) hx hb dX1_passOneTick_11 rfl hl (by decide) rfl (fun ls hl => ?_)
  refine wloop (σ := Nat × Nat × XS) (fun x => x.1) (fun x H locs ls => x.2.1 + x.1 = 100 ∧ x_tkN x.1 x.2.1 x.2.2 = x_tk1 st ∧ xokT x.2.2 ∧ kI D (xw g K) A s.heap x.2.2 H locs ∧ lv_has ls 3 [(1, .int (nI x.2.1)), (0, .ref (g 0))]) ?_ (100, 0, xinc st 2 0) _ _ _ ⟨rfl, rfl, xokT_now hok, hI, lv_sub hl [0, 1] rfl⟩
  rintro ⟨f, n, u⟩ H locs ls ⟨hkn, he, hok, hI, hl⟩ ih
  dsimp only at hkn he hok hI hl ih
  cases f with
  | zero =>
    have he : u = x_tk1 st := he
    refine lv_iload_n hx hb dX1_passOneTick_12 rfl (lv_at hl 0 rfl) ?_
    refine lv_bipush (v := nI 100) hx hb dX1_passOneTick_13 (by decide) ?_
    refine lv_icmp_ge (tgt := 61) hx hb dX1_passOneTick_15 (by decide) (fun c15 => ?_) (fun c15 => absurd c15 ((fun q => q (nI_le (by omega) (by omega)))))
    rw [nI_leI (by omega) (by omega)] at c15
    exact kret_v F hI dX1_passOneTick_61 (⟨rfl, he⟩)
  | succ f =>
    rcases ho : u.2.1 0 n with _ | a
    · have hl := hl
      refine lv_iload_n hx hb dX1_passOneTick_12 rfl (lv_at hl 0 rfl) ?_
      refine lv_bipush (v := nI 100) hx hb dX1_passOneTick_13 (by decide) ?_
      refine lv_icmp_ge (tgt := 61) hx hb dX1_passOneTick_15 (by decide) (fun c15 => absurd c15 ((nI_ge (show n < 100 by omega) (by decide)))) (fun c15 => ?_)
      rw [nI_leI (by omega) (by omega)] at c15
      refine lv_aload_n hx hb dX1_passOneTick_18 rfl (lv_at hl 1 rfl) ?_
      refine x_get F hI 5 (by decide) rfl flX1_38 dX1_passOneTick_19 ?_
      refine lv_iload_n hx hb dX1_passOneTick_22 rfl (lv_at hl 0 rfl) ?_
      refine x_rld F hI 0 (show n < 100 by omega) rfl dX1_passOneTick_23 ?_
      refine kstk (b := .null :: _) (by rw [ho]; rfl) ?_
      refine lv_astore_nN (lv' := [(2, .null), (1, .int _), (0, .ref _)]) hx hb dX1_passOneTick_24 rfl hl (by decide) rfl (fun ls hl => ?_)
      refine lv_aload_nN hx hb dX1_passOneTick_25 rfl (lv_at hl 0 rfl) ?_
      refine lv_ifnullN (tgt := 55) hx hb dX1_passOneTick_26 (by decide) ?_
      refine lv_iinc (v := nI (n + 1)) (lv' := [(1, .int _), (2, .null), (0, .ref _)]) hx hb dX1_passOneTick_55 hl (k := 1) rfl (kinc _ 1) (by decide) rfl (fun ls hl => ?_)
      refine lv_goto (tgt := 12) hx hb dX1_passOneTick_58 (by decide) ?_
      exact ih (f, n + 1, u) _ _ _ (by show f < f + 1; omega) ⟨by show n + 1 + f = _; omega, by rw [← he]; simp [x_tkN, x_tkK, ho], hok, hI, lv_sub hl [0, 2] rfl⟩
    · obtain ⟨ha, h0, sh, z, hs, hz, h1, h5⟩ := hok.1 n (by omega) a ho
      obtain ⟨e', he', h2⟩ := hok.2
      have hd : x_dec u a true = x_decS u a n sh z true e' := by rw [x_dec, h0, h1, h5, h2, nI_clamp (by omega), nI_clamp (by omega), nI_clamp (by omega), nI_clamp (by omega)]
      have hok2 := xokT_dec true (show n < 100 by omega) ho hok
      refine lv_iload_n hx hb dX1_passOneTick_12 rfl (lv_at hl 0 rfl) ?_
      refine lv_bipush (v := nI 100) hx hb dX1_passOneTick_13 (by decide) ?_
      refine lv_icmp_ge (tgt := 61) hx hb dX1_passOneTick_15 (by decide) (fun c15 => absurd c15 ((nI_ge (show n < 100 by omega) (by decide)))) (fun c15 => ?_)
      rw [nI_leI (by omega) (by omega)] at c15
      refine lv_aload_n hx hb dX1_passOneTick_18 rfl (lv_at hl 1 rfl) ?_
      refine x_get F hI 5 (by decide) rfl flX1_38 dX1_passOneTick_19 ?_
      refine lv_iload_n hx hb dX1_passOneTick_22 rfl (lv_at hl 0 rfl) ?_
      refine x_rld F hI 0 (show n < 100 by omega) rfl dX1_passOneTick_23 ?_
      refine kstk (b := .ref a :: _) (by rw [ho]; rfl) ?_
      refine lv_astore_n (lv' := [(2, .ref _), (1, .int _), (0, .ref _)]) hx hb dX1_passOneTick_24 rfl hl (by decide) rfl (fun ls hl => ?_)
      refine lv_aload_n hx hb dX1_passOneTick_25 rfl (lv_at hl 0 rfl) ?_
      refine lv_ifnull hx hb dX1_passOneTick_26 ?_
      refine lv_aload_n hx hb dX1_passOneTick_29 rfl (lv_at hl 2 rfl) ?_
      refine x_get F hI 2 (by decide) rfl flX1_25 dX1_passOneTick_30 ?_
      refine lv_iconst (v := nI 0) hx hb dX1_passOneTick_33 (by decide) ?_
      refine x_ald F hI 2 (show 0 < 13 by omega) rfl dX1_passOneTick_34 ?_
      refine lv_aload_n hx hb dX1_passOneTick_35 rfl (lv_at hl 0 rfl) ?_
      refine x_cget F hI ha 2 (by decide) rfl flX1_121 dX1_passOneTick_36 ?_
      refine lv_isub hx hb dX1_passOneTick_39 ?_
      refine lv_aload_n hx hb dX1_passOneTick_40 rfl (lv_at hl 2 rfl) ?_
      refine x_get F hI 1 (by decide) rfl flX1_22 dX1_passOneTick_41 ?_
      refine lv_iconst (v := nI 4) hx hb dX1_passOneTick_44 (by decide) ?_
      refine x_ald F hI 1 (show 4 < 6 by omega) rfl dX1_passOneTick_45 ?_
      refine lv_icmp_lt (tgt := 55) hx hb dX1_passOneTick_46 (by decide) (fun c46 => ?_) (fun c46 => ?_)
      ·
        refine lv_iinc (v := nI (n + 1)) (lv' := [(1, .int _), (2, .ref _), (0, .ref _)]) hx hb dX1_passOneTick_55 hl (k := 1) rfl (kinc _ 1) (by decide) rfl (fun ls hl => ?_)
        refine lv_goto (tgt := 12) hx hb dX1_passOneTick_58 (by decide) ?_
        exact ih (f, n + 1, u) _ _ _ (by show f < f + 1; omega) ⟨by show n + 1 + f = _; omega, by rw [← he]; simp [x_tkN, x_tkK, ho, c46], hok, hI, lv_sub hl [0, 2] rfl⟩
      ·
        refine lv_aload_n hx hb dX1_passOneTick_49 rfl (lv_at hl 2 rfl) ?_
        refine lv_aload_n hx hb dX1_passOneTick_50 rfl (lv_at hl 0 rfl) ?_
        refine lv_iconst (v := nI 1) hx hb dX1_passOneTick_51 (by decide) ?_
        refine kcallV (rest := []) F hA hI (xc_decide l _ a n sh z e' true ha (by omega) hs hz he' h0 h1 h5 h2) kgX1_172 (x_rec F hI) hl.1 rfl rfl (Nat.le_of_ble_eq_true rfl) dX1_passOneTick_52 ⟨Nat.le_of_ble_eq_true rfl, Nat.le_of_ble_eq_true rfl⟩ ⟨Nat.le_of_ble_eq_true rfl, Nat.le_of_ble_eq_true rfl⟩ (fun vq uq H locs hp hI => ?_)
        obtain ⟨rfl, hu⟩ := hp
        rw [hu] at hI
        clear hu
        refine kstk (b := []) rfl ?_
        refine lv_iinc (v := nI (n + 1)) (lv' := [(1, .int _), (2, .ref _), (0, .ref _)]) hx hb dX1_passOneTick_55 hl (k := 1) rfl (kinc _ 1) (by decide) rfl (fun ls hl => ?_)
        refine lv_goto (tgt := 12) hx hb dX1_passOneTick_58 (by decide) ?_
        exact ih (f, n + 1, x_dec u a true) _ _ _ (by show f < f + 1; omega) ⟨by show n + 1 + f = _; omega, by rw [← he]; simp [x_tkN, x_tkK, ho, c46], hok2, by rw [hd]; exact hI, lv_sub hl [0, 2] rfl⟩
theorem xc_tick (st : XS) (nt : Nat) (h1 : 1 ≤ nt) (h60 : nt ≤ 60) (hok : xokT st) : kM l yX1_tick cX1_tick 4 (some .int) 6 129 0 0 D (xty K) (xw g K) [.ref (g 0), .int (nI nt)] st (fun v u => v = some (.int ((x_tkL nt st).1 2 10 - st.1 2 10)) ∧ u = x_tkL nt st) := by
  refine kM_intro (by decide) (Nat.le_of_ble_eq_true rfl) ?_
  intro p e s m below meth c A ls F hA hI hl
  obtain ⟨hx, hb, hr, hml, hown, hts, hlk, hK, hnm⟩ := id F
  have hl : lv_has ls 4 [(0, .ref (g 0)), (1, .int (nI nt))] := hl
  have g1 : inR (nI nt) (nI 1) (nI 60) = true := inR_in (by decide) (by omega) (by omega)
  refine lv_iload_n hx hb dX1_tick_0 rfl (lv_at hl 1 rfl) ?_
  refine lv_iconst (v := nI 1) hx hb dX1_tick_1 (by decide) ?_
  refine lv_bipush (v := nI 60) hx hb dX1_tick_2 (by decide) ?_
  refine kcallS (rest := []) F hA hI (xc_isWithin l _ _ _ _) kgX1_73 hl.1 rfl rfl (Nat.le_of_ble_eq_true rfl) dX1_tick_4 ⟨Nat.le_of_ble_eq_true rfl, Nat.le_of_ble_eq_true rfl⟩ ⟨Nat.le_of_ble_eq_true rfl, Nat.le_of_ble_eq_true rfl⟩ (fun vq uq H locs hp hI => ?_)
  obtain ⟨rfl, hu⟩ := hp
  rw [hu] at hI
  clear hu
  refine kstk (b := .int _ :: []) rfl ?_
  refine lv_if_ne (tgt := 12) hx hb dX1_tick_7 (by decide) (fun c7 => ?_) (fun c7 => absurd c7 ((fun q => by rw [bI_z, g1] at q; cases q)))
  refine lv_aload_n hx hb dX1_tick_12 rfl (lv_at hl 0 rfl) ?_
  refine x_get F hI 2 (by decide) rfl flX1_25 dX1_tick_13 ?_
  refine lv_bipush (v := nI 10) hx hb dX1_tick_16 (by decide) ?_
  refine x_ald F hI 2 (show 10 < 13 by omega) rfl dX1_tick_18 ?_
  refine lv_istore_n (lv' := [(2, .int _), (0, .ref _), (1, .int _)]) hx hb dX1_tick_19 rfl hl (by decide) rfl (fun ls hl => ?_)
  refine lv_iconst (v := nI 0) hx hb dX1_tick_20 (by decide) ?_
  refine lv_istore_n (lv' := [(3, .int _), (2, .int _), (0, .ref _), (1, .int _)]) hx hb dX1_tick_21 rfl hl (by decide) rfl (fun ls hl => ?_)
  refine wloop (σ := Nat × Nat × XS) (fun x => x.1) (fun x H locs ls => x.2.1 + x.1 = nt ∧ x_tkL x.1 x.2.2 = x_tkL nt st ∧ xokT x.2.2 ∧ kI D (xw g K) A s.heap x.2.2 H locs ∧ lv_has ls 4 [(3, .int (nI x.2.1)), (2, .int (st.1 2 10)), (0, .ref (g 0)), (1, .int (nI nt))]) ?_ (nt, 0, st) _ _ _ ⟨Nat.zero_add _, rfl, hok, hI, lv_sub hl [0, 1, 2, 3] rfl⟩
  rintro ⟨f, t, u⟩ H locs ls ⟨hk, he, hok, hI, hl⟩ ih
  dsimp only at hk he hok hI hl ih
  refine lv_iload_n hx hb dX1_tick_22 rfl (lv_at hl 0 rfl) ?_
  refine lv_iload_n hx hb dX1_tick_23 rfl (lv_at hl 3 rfl) ?_
  refine lv_icmp_ge (tgt := 37) hx hb dX1_tick_24 (by decide) (fun c24 => ?_) (fun c24 => ?_)
  ·
    rw [nI_leI (by omega) (by omega)] at c24
    obtain rfl : f = 0 := by omega
    have he : u = x_tkL nt st := he
    refine lv_aload_n hx hb dX1_tick_37 rfl (lv_at hl 2 rfl) ?_
    refine x_get F hI 2 (by decide) rfl flX1_25 dX1_tick_38 ?_
    refine lv_bipush (v := nI 10) hx hb dX1_tick_41 (by decide) ?_
    refine x_ald F hI 2 (show 10 < 13 by omega) rfl dX1_tick_43 ?_
    refine lv_iload_n hx hb dX1_tick_44 rfl (lv_at hl 1 rfl) ?_
    refine lv_isub hx hb dX1_tick_45 ?_
    exact kret_i F hI dX1_tick_46 (⟨by rw [he], he⟩)
  ·
    rw [nI_leI (by omega) (by omega)] at c24
    obtain ⟨f, rfl⟩ : ∃ f', f = f' + 1 := ⟨f - 1, by omega⟩
    refine lv_aload_n hx hb dX1_tick_27 rfl (lv_at hl 2 rfl) ?_
    refine kcallV (rest := []) F hA hI (xc_tick1 l _ hok) kgX1_102 (x_rec F hI) hl.1 rfl rfl (Nat.le_of_ble_eq_true rfl) dX1_tick_28 ⟨Nat.le_of_ble_eq_true rfl, Nat.le_of_ble_eq_true rfl⟩ ⟨Nat.le_of_ble_eq_true rfl, Nat.le_of_ble_eq_true rfl⟩ (fun vq uq H locs hp hI => ?_)
    obtain ⟨rfl, hu⟩ := hp
    rw [hu] at hI
    clear hu
    refine kstk (b := []) rfl ?_
    have hI : kI D _ A s.heap (x_tk1 u) H locs := hI
    generalize hS28 : x_tk1 u = S28 at hI
    have hok28 : xokT S28 := by rw [← hS28]; exact xokT_tk1 hok
    refine lv_iinc (v := nI (t + 1)) (lv' := [(3, .int _), (2, .int _), (0, .ref _), (1, .int _)]) hx hb dX1_tick_31 hl (k := 0) rfl (kinc _ 1) (by decide) rfl (fun ls hl => ?_)
    refine lv_goto (tgt := 22) hx hb dX1_tick_34 (by decide) ?_
    exact ih (f, t + 1, S28) _ _ _ (by show f < f + 1; omega) ⟨by show t + 1 + f = _; omega, by show x_tkL f S28 = _; rw [← he, x_tkL_s, hS28], hok28, hI, lv_sub hl [0, 1, 2, 3] rfl⟩
theorem xc_tick_bad (st : XS) (x : Int32) (h : inR x (nI 1) (nI 60) = false) : kM l yX1_tick cX1_tick 4 (some .int) 6 129 0 0 D (xty K) (xw g K) [.ref (g 0), .int x] st (fun v u => v = some (.int (-1)) ∧ u = st) := by
  refine kM_intro (by decide) (Nat.le_of_ble_eq_true rfl) ?_
  intro p e s m below meth c A ls F hA hI hl
  obtain ⟨hx, hb, hr, hml, hown, hts, hlk, hK, hnm⟩ := id F
  have hl : lv_has ls 4 [(0, .ref (g 0)), (1, .int x)] := hl
  refine lv_iload_n hx hb dX1_tick_0 rfl (lv_at hl 1 rfl) ?_
  refine lv_iconst (v := nI 1) hx hb dX1_tick_1 (by decide) ?_
  refine lv_bipush (v := nI 60) hx hb dX1_tick_2 (by decide) ?_
  refine kcallS (rest := []) F hA hI (xc_isWithin l _ _ _ _) kgX1_73 hl.1 rfl rfl (Nat.le_of_ble_eq_true rfl) dX1_tick_4 ⟨Nat.le_of_ble_eq_true rfl, Nat.le_of_ble_eq_true rfl⟩ ⟨Nat.le_of_ble_eq_true rfl, Nat.le_of_ble_eq_true rfl⟩ (fun vq uq H locs hp hI => ?_)
  obtain ⟨rfl, hu⟩ := hp
  rw [hu] at hI
  clear hu
  refine kstk (b := .int _ :: []) rfl ?_
  refine lv_if_ne (tgt := 12) hx hb dX1_tick_7 (by decide) (fun c7 => absurd c7 ((fun q => q (bI_z.mpr h)))) (fun c7 => ?_)
  refine lv_iconst (v := -1) hx hb dX1_tick_10 (by decide) ?_
  exact kret_i F hI dX1_tick_11 (⟨rfl, rfl⟩)
end XC4
