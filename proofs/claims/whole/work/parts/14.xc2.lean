/-! the class: weighing, keeping, deciding -/
def x_fairS (st : XS) (sh : Nat) : Int32 × XS :=
  let s1 := xinc (xmk st (st.2.2.1 + 1)) (4 + sh) 5
  if s1.1 1 0 ≤ s1.1 (4 + sh) 5 then ((xset s1 (4 + sh) 5 (nI 0)).1 1 0, xset s1 (4 + sh) 5 (nI 0)) else (nI 0, s1)
def x_longS (st : XS) (sh : Nat) (z : Int32) : Int32 × XS :=
  let s1 := xmk st (st.2.2.1 + 10)
  if z < s1.1 1 1 then x_fairS s1 sh else (nI 1, s1)
def x_rareS (st : XS) (sh : Nat) (z : Int32) : Int32 × XS :=
  let s1 := xmk st (st.2.2.1 + 100)
  if s1.1 1 2 ≤ s1.1 (4 + sh) 0 then x_longS s1 sh z else (nI 1, s1)
def x_tornS (st : XS) (sh : Nat) (z : Int32) : Int32 × XS :=
  let s1 := xmk st (st.2.2.1 + 1000)
  if s1.1 1 3 = 0 then (nI 0, xinc s1 (4 + sh) 4) else x_rareS s1 sh z
def x_weigh (st : XS) (sh : Nat) (z : Int32) (tn : Bool) : Int32 × XS := if tn = true then x_tornS st sh z else x_rareS st sh z
def x_keepS (st : XS) (a sh e : Nat) (w : Int32) : XS := if 20 ≤ e then xadd st (4 + sh) 3 w else xadd (xc (xinc (xrf st 2 e (some a)) 2 2) a 10 (nI 1)) (4 + sh) 1 w
def xcnow (st : XS) (a f : Nat) : XS := xc st a f (st.1 2 0)
def x_d1 (st : XS) (a n : Nat) (tn : Bool) : XS := xcnow (xc (xrf (x_stop st n) 1 n (some a)) a 9 (bI tn)) a 7
def x_tn (st : XS) (tn : Bool) : XS := if tn = true then xinc st 2 11 else st
def x_d2 (st : XS) (sh z : Nat) (tn : Bool) : XS := x_tn (xinc (xinc (xinc st (4 + sh) 0) 3 (stp z)) 2 10) tn
def x_fin (s9 : XS) (a sh e : Nat) (w : Int32) : XS := if w ≤ 0 then s9 else x_keepS s9 a sh e w
def x_decS (st : XS) (a n sh z : Nat) (tn : Bool) (e : Nat) : XS := x_fin (x_d2 (xc (x_weigh (x_d1 st a n tn) sh (nI z) tn).2 a 8 (x_weigh (x_d1 st a n tn) sh (nI z) tn).1) sh z tn) a sh e (x_weigh (x_d1 st a n tn) sh (nI z) tn).1
theorem cf_ne {st : XS} {a b f f' : Nat} {v : Int32} (h : f' ≠ f) : cf (xc st a f v) b f' = cf st b f' := by
  by_cases e : b = a
  · subst e
    simp [cf, xc, va_up, upd, h]
  · simp [cf, xc, va_up, e]
theorem cf_eq {st : XS} {a f : Nat} {v : Int32} : cf (xc st a f v) a f = v := by simp [cf, xc, va_up, upd]
theorem cf_b {st : XS} {a b f f' : Nat} {v : Int32} (h : b ≠ a) : cf (xc st a f v) b f' = cf st b f' := by simp [cf, xc, va_up, h]
theorem xset_s {st : XS} {k i : Nat} {v : Int32} : (xset st k i v).1 k i = v := by simp [xset, va_up, upd]
theorem xset_k {st : XS} {k j i : Nat} {v : Int32} (h : j ≠ k) : (xset st k i v).1 j = st.1 j := by simp [xset, va_up, h]
theorem xset_a {st : XS} {k i : Nat} {v : Int32} : (xset st k i v).1 k = upd (st.1 k) i v := by simp [xset, va_up]
/-- what the weighing leaves as it is -/
def x_only (st u : XS) : Prop := u.2.1 = st.2.1 ∧ u.2.2.2 = st.2.2.2 ∧ ∀ k, k < 4 → u.1 k = st.1 k
theorem x_only_rf (st : XS) : x_only st st := ⟨rfl, rfl, fun _ _ => rfl⟩
theorem x_only_mk {st u : XS} {v : Int64} (h : x_only st u) : x_only st (xmk u v) := h
theorem x_only_set {st u : XS} {sh i : Nat} {v : Int32} (h : x_only st u) : x_only st (xset u (4 + sh) i v) := ⟨h.1, h.2.1, fun k hk => (xset_k (by omega)).trans (h.2.2 k hk)⟩
theorem x_only_fair {st u : XS} (sh : Nat) (h : x_only st u) : x_only st (x_fairS u sh).2 := by
  unfold x_fairS
  dsimp only
  split
  · exact x_only_set (x_only_set (x_only_mk h))
  · exact x_only_set (x_only_mk h)
theorem x_only_long {st u : XS} (sh : Nat) (z : Int32) (h : x_only st u) : x_only st (x_longS u sh z).2 := by
  unfold x_longS
  dsimp only
  split
  · exact x_only_fair sh (x_only_mk h)
  · exact x_only_mk h
theorem x_only_rare {st u : XS} (sh : Nat) (z : Int32) (h : x_only st u) : x_only st (x_rareS u sh z).2 := by
  unfold x_rareS
  dsimp only
  split
  · exact x_only_long sh z (x_only_mk h)
  · exact x_only_mk h
theorem x_only_torn {st u : XS} (sh : Nat) (z : Int32) (h : x_only st u) : x_only st (x_tornS u sh z).2 := by
  unfold x_tornS
  dsimp only
  split
  · exact x_only_set (x_only_mk h)
  · exact x_only_rare sh z (x_only_mk h)
theorem x_only_weigh (st : XS) (sh : Nat) (z : Int32) (tn : Bool) : x_only st (x_weigh st sh z tn).2 := by
  unfold x_weigh
  split
  · exact x_only_torn sh z (x_only_rf st)
  · exact x_only_rare sh z (x_only_rf st)
section XC2
variable (l : Launch) {D : va_G} {g : Nat → Nat} {K : Nat → ClassId}
theorem xc_fair (st : XS) (a sh : Nat) (ha : a ∈ st.2.2.2.1) (hs : sh < 5) (h1 : cf st a 1 = nI sh) : kM l yX1_weighFair cX1_weighFair 3 (some .int) 0 0 0 0 D (xty K) (xw g K) [.ref (g 0), .ref a] st (fun v u => v = some (.int (x_fairS st sh).1) ∧ u = (x_fairS st sh).2) := by
  refine kM_intro (by decide) (Nat.le_of_ble_eq_true rfl) ?_
  intro p e s m below meth c A ls F hA hI hl
  obtain ⟨hx, hb, hr, hml, hown, hts, hlk, hK, hnm⟩ := id F
  have hl : lv_has ls 3 [(0, .ref (g 0)), (1, .ref a)] := hl
  refine lv_aload_n hx hb dX1_weighFair_0 rfl (lv_at hl 0 rfl) ?_
  refine lv_dup hx hb dX1_weighFair_1 rfl ?_
  refine x_get F hI 8 (by decide) rfl flX1_48 dX1_weighFair_2 ?_
  refine lv_lconst (v := 1) hx hb dX1_weighFair_5 (by decide) ?_
  refine lv_ladd hx hb dX1_weighFair_6 ?_
  refine x_putMk F hI flX1_48 dX1_weighFair_7 (fun H locs hI => ?_)
  have hI : kI D _ A s.heap (xmk st (st.2.2.1 + 1)) H locs := hI
  generalize hS7 : xmk st (st.2.2.1 + 1) = S7 at hI
  have ha : a ∈ S7.2.2.2.1 := by rw [← hS7]; exact ha
  have h1 : cf S7 a 1 = nI sh := by rw [← hS7]; exact h1
  refine lv_aload_n hx hb dX1_weighFair_10 rfl (lv_at hl 0 rfl) ?_
  refine x_get F hI 3 (by decide) rfl flX1_30 dX1_weighFair_11 ?_
  refine lv_aload_n hx hb dX1_weighFair_14 rfl (lv_at hl 1 rfl) ?_
  refine x_cget F hI ha 1 (by decide) rfl flX1_112 dX1_weighFair_15 ?_
  refine ktop (y := nI (sh)) (by exact h1) ?_
  refine x_tal F hI (s' := (sh)) (by omega) rfl dX1_weighFair_18 ?_
  refine lv_astore_n (lv' := [(2, .ref _), (0, .ref _), (1, .ref _)]) hx hb dX1_weighFair_19 rfl hl (by decide) rfl (fun ls hl => ?_)
  refine lv_aload_n hx hb dX1_weighFair_20 rfl (lv_at hl 0 rfl) ?_
  refine lv_iconst (v := nI 5) hx hb dX1_weighFair_21 (by decide) ?_
  refine lv_dup2_11 hx hb dX1_weighFair_22 rfl rfl ?_
  refine x_tald F hI (s' := (sh)) (by omega) (show 5 < 7 by omega) rfl dX1_weighFair_23 ?_
  refine lv_iconst (v := nI 1) hx hb dX1_weighFair_24 (by decide) ?_
  refine lv_iadd hx hb dX1_weighFair_25 ?_
  refine x_tast F hI (s' := (sh)) (by omega) (show 5 < 7 by omega) rfl dX1_weighFair_26 (fun H locs hI => ?_)
  have hI : kI D _ A s.heap (xinc S7 (4 + sh) 5) H locs := hI
  generalize hS26 : xinc S7 (4 + sh) 5 = S26 at hI
  refine lv_aload_n hx hb dX1_weighFair_27 rfl (lv_at hl 0 rfl) ?_
  refine lv_iconst (v := nI 5) hx hb dX1_weighFair_28 (by decide) ?_
  refine x_tald F hI (s' := (sh)) (by omega) (show 5 < 7 by omega) rfl dX1_weighFair_29 ?_
  refine lv_aload_n hx hb dX1_weighFair_30 rfl (lv_at hl 1 rfl) ?_
  refine x_get F hI 1 (by decide) rfl flX1_22 dX1_weighFair_31 ?_
  refine lv_iconst (v := nI 0) hx hb dX1_weighFair_34 (by decide) ?_
  refine x_ald F hI 1 (show 0 < 6 by omega) rfl dX1_weighFair_35 ?_
  refine lv_icmp_ge (tgt := 41) hx hb dX1_weighFair_36 (by decide) (fun c36 => ?_) (fun c36 => ?_)
  ·
    refine lv_aload_n hx hb dX1_weighFair_41 rfl (lv_at hl 0 rfl) ?_
    refine lv_iconst (v := nI 5) hx hb dX1_weighFair_42 (by decide) ?_
    refine lv_iconst (v := nI 0) hx hb dX1_weighFair_43 (by decide) ?_
    refine x_tast F hI (s' := (sh)) (by omega) (show 5 < 7 by omega) rfl dX1_weighFair_44 (fun H locs hI => ?_)
    refine lv_aload_n hx hb dX1_weighFair_45 rfl (lv_at hl 1 rfl) ?_
    refine x_get F hI 1 (by decide) rfl flX1_22 dX1_weighFair_46 ?_
    refine lv_iconst (v := nI 0) hx hb dX1_weighFair_49 (by decide) ?_
    refine x_ald F hI 1 (show 0 < 6 by omega) rfl dX1_weighFair_50 ?_
    exact kret_i F hI dX1_weighFair_51 (⟨by simp only [x_fairS]; rw [hS7, hS26, if_pos c36], by simp only [x_fairS]; rw [hS7, hS26, if_pos c36]⟩)
  ·
    refine lv_iconst (v := nI 0) hx hb dX1_weighFair_39 (by decide) ?_
    exact kret_i F hI dX1_weighFair_40 (⟨by simp only [x_fairS]; rw [hS7, hS26, if_neg c36], by simp only [x_fairS]; rw [hS7, hS26, if_neg c36]⟩)
theorem xc_long (st : XS) (a sh : Nat) (z : Int32) (ha : a ∈ st.2.2.2.1) (hs : sh < 5) (h1 : cf st a 1 = nI sh) (h5 : cf st a 5 = z) : kM l yX1_weighLong cX1_weighLong 2 (some .int) 1 22 0 0 D (xty K) (xw g K) [.ref (g 0), .ref a] st (fun v u => v = some (.int (x_longS st sh z).1) ∧ u = (x_longS st sh z).2) := by
  refine kM_intro (by decide) (Nat.le_of_ble_eq_true rfl) ?_
  intro p e s m below meth c A ls F hA hI hl
  obtain ⟨hx, hb, hr, hml, hown, hts, hlk, hK, hnm⟩ := id F
  have hl : lv_has ls 2 [(0, .ref (g 0)), (1, .ref a)] := hl
  refine lv_aload_n hx hb dX1_weighLong_0 rfl (lv_at hl 0 rfl) ?_
  refine lv_dup hx hb dX1_weighLong_1 rfl ?_
  refine x_get F hI 8 (by decide) rfl flX1_48 dX1_weighLong_2 ?_
  refine lv_ldc2 (v := 10) hx hb hown (hts _ clX1_196) dX1_weighLong_5 ?_
  refine lv_ladd hx hb dX1_weighLong_8 ?_
  refine x_putMk F hI flX1_48 dX1_weighLong_9 (fun H locs hI => ?_)
  refine lv_aload_n hx hb dX1_weighLong_12 rfl (lv_at hl 1 rfl) ?_
  refine x_cget F hI ha 5 (by decide) rfl flX1_115 dX1_weighLong_13 ?_
  refine ktop (y := z) (by exact h5) ?_
  refine lv_aload_n hx hb dX1_weighLong_16 rfl (lv_at hl 0 rfl) ?_
  refine x_get F hI 1 (by decide) rfl flX1_22 dX1_weighLong_17 ?_
  refine lv_iconst (v := nI 1) hx hb dX1_weighLong_20 (by decide) ?_
  refine x_ald F hI 1 (show 1 < 6 by omega) rfl dX1_weighLong_21 ?_
  refine lv_icmp_lt (tgt := 29) hx hb dX1_weighLong_22 (by decide) (fun c22 => ?_) (fun c22 => ?_)
  ·
    refine lv_aload_n hx hb dX1_weighLong_29 rfl (lv_at hl 0 rfl) ?_
    refine lv_aload_n hx hb dX1_weighLong_30 rfl (lv_at hl 1 rfl) ?_
    refine kcallV (rest := []) F hA hI (xc_fair l _ a sh ha hs h1) kgX1_198 (x_rec F hI) hl.1 rfl rfl (Nat.le_of_ble_eq_true rfl) dX1_weighLong_31 ⟨Nat.le_of_ble_eq_true rfl, Nat.le_of_ble_eq_true rfl⟩ ⟨Nat.le_of_ble_eq_true rfl, Nat.le_of_ble_eq_true rfl⟩ (fun vq uq H locs hp hI => ?_)
    obtain ⟨rfl, hu⟩ := hp
    rw [hu] at hI
    clear hu
    refine kstk (b := .int _ :: []) rfl ?_
    exact kret_i F hI dX1_weighLong_34 (⟨by simp only [x_longS]; rw [if_pos c22], by simp only [x_longS]; rw [if_pos c22]⟩)
  ·
    refine lv_iconst (v := nI 1) hx hb dX1_weighLong_25 (by decide) ?_
    refine lv_goto (tgt := 34) hx hb dX1_weighLong_26 (by decide) ?_
    exact kret_i F hI dX1_weighLong_34 (⟨by simp only [x_longS]; rw [if_neg c22], by simp only [x_longS]; rw [if_neg c22]⟩)
theorem xc_rare (st : XS) (a sh : Nat) (z : Int32) (ha : a ∈ st.2.2.2.1) (hs : sh < 5) (h1 : cf st a 1 = nI sh) (h5 : cf st a 5 = z) : kM l yX1_weighRare cX1_weighRare 2 (some .int) 2 43 0 0 D (xty K) (xw g K) [.ref (g 0), .ref a] st (fun v u => v = some (.int (x_rareS st sh z).1) ∧ u = (x_rareS st sh z).2) := by
  refine kM_intro (by decide) (Nat.le_of_ble_eq_true rfl) ?_
  intro p e s m below meth c A ls F hA hI hl
  obtain ⟨hx, hb, hr, hml, hown, hts, hlk, hK, hnm⟩ := id F
  have hl : lv_has ls 2 [(0, .ref (g 0)), (1, .ref a)] := hl
  refine lv_aload_n hx hb dX1_weighRare_0 rfl (lv_at hl 0 rfl) ?_
  refine lv_dup hx hb dX1_weighRare_1 rfl ?_
  refine x_get F hI 8 (by decide) rfl flX1_48 dX1_weighRare_2 ?_
  refine lv_ldc2 (v := 100) hx hb hown (hts _ clX1_191) dX1_weighRare_5 ?_
  refine lv_ladd hx hb dX1_weighRare_8 ?_
  refine x_putMk F hI flX1_48 dX1_weighRare_9 (fun H locs hI => ?_)
  refine lv_aload_n hx hb dX1_weighRare_12 rfl (lv_at hl 0 rfl) ?_
  refine x_get F hI 3 (by decide) rfl flX1_30 dX1_weighRare_13 ?_
  refine lv_aload_n hx hb dX1_weighRare_16 rfl (lv_at hl 1 rfl) ?_
  refine x_cget F hI ha 1 (by decide) rfl flX1_112 dX1_weighRare_17 ?_
  refine ktop (y := nI (sh)) (by exact h1) ?_
  refine x_tal F hI (s' := (sh)) (by omega) rfl dX1_weighRare_20 ?_
  refine lv_iconst (v := nI 0) hx hb dX1_weighRare_21 (by decide) ?_
  refine x_tald F hI (s' := (sh)) (by omega) (show 0 < 7 by omega) rfl dX1_weighRare_22 ?_
  refine lv_aload_n hx hb dX1_weighRare_23 rfl (lv_at hl 0 rfl) ?_
  refine x_get F hI 1 (by decide) rfl flX1_22 dX1_weighRare_24 ?_
  refine lv_iconst (v := nI 2) hx hb dX1_weighRare_27 (by decide) ?_
  refine x_ald F hI 1 (show 2 < 6 by omega) rfl dX1_weighRare_28 ?_
  refine lv_icmp_ge (tgt := 36) hx hb dX1_weighRare_29 (by decide) (fun c29 => ?_) (fun c29 => ?_)
  ·
    refine lv_aload_n hx hb dX1_weighRare_36 rfl (lv_at hl 0 rfl) ?_
    refine lv_aload_n hx hb dX1_weighRare_37 rfl (lv_at hl 1 rfl) ?_
    refine kcallV (rest := []) F hA hI (xc_long l _ a sh z ha hs h1 h5) kgX1_193 (x_rec F hI) hl.1 rfl rfl (Nat.le_of_ble_eq_true rfl) dX1_weighRare_38 ⟨Nat.le_of_ble_eq_true rfl, Nat.le_of_ble_eq_true rfl⟩ ⟨Nat.le_of_ble_eq_true rfl, Nat.le_of_ble_eq_true rfl⟩ (fun vq uq H locs hp hI => ?_)
    obtain ⟨rfl, hu⟩ := hp
    rw [hu] at hI
    clear hu
    refine kstk (b := .int _ :: []) rfl ?_
    exact kret_i F hI dX1_weighRare_41 (⟨by simp only [x_rareS]; rw [if_pos c29], by simp only [x_rareS]; rw [if_pos c29]⟩)
  ·
    refine lv_iconst (v := nI 1) hx hb dX1_weighRare_32 (by decide) ?_
    refine lv_goto (tgt := 41) hx hb dX1_weighRare_33 (by decide) ?_
    exact kret_i F hI dX1_weighRare_41 (⟨by simp only [x_rareS]; rw [if_neg c29], by simp only [x_rareS]; rw [if_neg c29]⟩)
theorem xc_torn (st : XS) (a sh : Nat) (z : Int32) (ha : a ∈ st.2.2.2.1) (hs : sh < 5) (h1 : cf st a 1 = nI sh) (h5 : cf st a 5 = z) : kM l yX1_weighTorn cX1_weighTorn 2 (some .int) 3 64 0 0 D (xty K) (xw g K) [.ref (g 0), .ref a] st (fun v u => v = some (.int (x_tornS st sh z).1) ∧ u = (x_tornS st sh z).2) := by
  refine kM_intro (by decide) (Nat.le_of_ble_eq_true rfl) ?_
  intro p e s m below meth c A ls F hA hI hl
  obtain ⟨hx, hb, hr, hml, hown, hts, hlk, hK, hnm⟩ := id F
  have hl : lv_has ls 2 [(0, .ref (g 0)), (1, .ref a)] := hl
  refine lv_aload_n hx hb dX1_weighTorn_0 rfl (lv_at hl 0 rfl) ?_
  refine lv_dup hx hb dX1_weighTorn_1 rfl ?_
  refine x_get F hI 8 (by decide) rfl flX1_48 dX1_weighTorn_2 ?_
  refine lv_ldc2 (v := 1000) hx hb hown (hts _ clX1_189) dX1_weighTorn_5 ?_
  refine lv_ladd hx hb dX1_weighTorn_8 ?_
  refine x_putMk F hI flX1_48 dX1_weighTorn_9 (fun H locs hI => ?_)
  refine lv_aload_n hx hb dX1_weighTorn_12 rfl (lv_at hl 0 rfl) ?_
  refine x_get F hI 1 (by decide) rfl flX1_22 dX1_weighTorn_13 ?_
  refine lv_iconst (v := nI 3) hx hb dX1_weighTorn_16 (by decide) ?_
  refine x_ald F hI 1 (show 3 < 6 by omega) rfl dX1_weighTorn_17 ?_
  refine lv_if_ne (tgt := 38) hx hb dX1_weighTorn_18 (by decide) (fun c18 => ?_) (fun c18 => ?_)
  ·
    refine lv_aload_n hx hb dX1_weighTorn_38 rfl (lv_at hl 0 rfl) ?_
    refine lv_aload_n hx hb dX1_weighTorn_39 rfl (lv_at hl 1 rfl) ?_
    refine kcallV (rest := []) F hA hI (xc_rare l _ a sh z ha hs h1 h5) kgX1_180 (x_rec F hI) hl.1 rfl rfl (Nat.le_of_ble_eq_true rfl) dX1_weighTorn_40 ⟨Nat.le_of_ble_eq_true rfl, Nat.le_of_ble_eq_true rfl⟩ ⟨Nat.le_of_ble_eq_true rfl, Nat.le_of_ble_eq_true rfl⟩ (fun vq uq H locs hp hI => ?_)
    obtain ⟨rfl, hu⟩ := hp
    rw [hu] at hI
    clear hu
    refine kstk (b := .int _ :: []) rfl ?_
    exact kret_i F hI dX1_weighTorn_43 (⟨by simp only [x_tornS]; rw [if_neg c18], by simp only [x_tornS]; rw [if_neg c18]⟩)
  ·
    refine lv_aload_n hx hb dX1_weighTorn_21 rfl (lv_at hl 0 rfl) ?_
    refine x_get F hI 3 (by decide) rfl flX1_30 dX1_weighTorn_22 ?_
    refine lv_aload_n hx hb dX1_weighTorn_25 rfl (lv_at hl 1 rfl) ?_
    refine x_cget F hI ha 1 (by decide) rfl flX1_112 dX1_weighTorn_26 ?_
    refine ktop (y := nI (sh)) (by exact h1) ?_
    refine x_tal F hI (s' := (sh)) (by omega) rfl dX1_weighTorn_29 ?_
    refine lv_iconst (v := nI 4) hx hb dX1_weighTorn_30 (by decide) ?_
    refine lv_dup2_11 hx hb dX1_weighTorn_31 rfl rfl ?_
    refine x_tald F hI (s' := (sh)) (by omega) (show 4 < 7 by omega) rfl dX1_weighTorn_32 ?_
    refine lv_iconst (v := nI 1) hx hb dX1_weighTorn_33 (by decide) ?_
    refine lv_iadd hx hb dX1_weighTorn_34 ?_
    refine x_tast F hI (s' := (sh)) (by omega) (show 4 < 7 by omega) rfl dX1_weighTorn_35 (fun H locs hI => ?_)
    refine lv_iconst (v := nI 0) hx hb dX1_weighTorn_36 (by decide) ?_
    exact kret_i F hI dX1_weighTorn_37 (⟨by simp only [x_tornS]; rw [if_pos c18], by simp only [x_tornS, xinc]; rw [if_pos c18]⟩)
theorem xc_keep (st : XS) (a sh e' : Nat) (w : Int32) (ha : a ∈ st.2.2.2.1) (hs : sh < 5) (he : e' ≤ 20) (h1 : cf st a 1 = nI sh) (h8 : cf st a 8 = w) (h2 : st.1 2 2 = nI e') : kM l yX1_keepOrLetFall cX1_keepOrLetFall 3 none 0 0 0 0 D (xty K) (xw g K) [.ref (g 0), .ref a] st (fun v u => v = none ∧ u = x_keepS st a sh e' w) := by
  refine kM_intro (by decide) (Nat.le_of_ble_eq_true rfl) ?_
  intro p e s m below meth c A ls F hA hI hl
  obtain ⟨hx, hb, hr, hml, hown, hts, hlk, hK, hnm⟩ := id F
  have hl : lv_has ls 3 [(0, .ref (g 0)), (1, .ref a)] := hl
  refine lv_aload_n hx hb dX1_keepOrLetFall_0 rfl (lv_at hl 0 rfl) ?_
  refine x_get F hI 2 (by decide) rfl flX1_25 dX1_keepOrLetFall_1 ?_
  refine lv_iconst (v := nI 2) hx hb dX1_keepOrLetFall_4 (by decide) ?_
  refine x_ald F hI 2 (show 2 < 13 by omega) rfl dX1_keepOrLetFall_5 ?_
  refine ktop (y := nI (e')) (by exact h2) ?_
  refine lv_istore_n (lv' := [(2, .int _), (0, .ref _), (1, .ref _)]) hx hb dX1_keepOrLetFall_6 rfl hl (by decide) rfl (fun ls hl => ?_)
  refine lv_iload_n hx hb dX1_keepOrLetFall_7 rfl (lv_at hl 0 rfl) ?_
  refine lv_bipush (v := nI 20) hx hb dX1_keepOrLetFall_8 (by decide) ?_
  refine lv_icmp_lt (tgt := 32) hx hb dX1_keepOrLetFall_10 (by decide) (fun c10 => ?_) (fun c10 => ?_)
  ·
    rw [nI_ltI (by omega) (by omega)] at c10
    refine lv_aload_n hx hb dX1_keepOrLetFall_32 rfl (lv_at hl 1 rfl) ?_
    refine x_get F hI 7 (by decide) rfl flX1_45 dX1_keepOrLetFall_33 ?_
    refine lv_iload_n hx hb dX1_keepOrLetFall_36 rfl (lv_at hl 0 rfl) ?_
    refine lv_aload_n hx hb dX1_keepOrLetFall_37 rfl (lv_at hl 2 rfl) ?_
    refine x_rst F hI ha 2 (show (e') < 20 by omega) rfl dX1_keepOrLetFall_38 (fun H locs hI => ?_)
    have hI : kI D _ A s.heap (xrf st 2 e' (some a)) H locs := hI
    generalize hS38 : xrf st 2 e' (some a) = S38 at hI
    have ha : a ∈ S38.2.2.2.1 := by rw [← hS38]; exact ha
    refine lv_aload_n hx hb dX1_keepOrLetFall_39 rfl (lv_at hl 1 rfl) ?_
    refine x_get F hI 2 (by decide) rfl flX1_25 dX1_keepOrLetFall_40 ?_
    refine lv_iconst (v := nI 2) hx hb dX1_keepOrLetFall_43 (by decide) ?_
    refine lv_dup2_11 hx hb dX1_keepOrLetFall_44 rfl rfl ?_
    refine x_ald F hI 2 (show 2 < 13 by omega) rfl dX1_keepOrLetFall_45 ?_
    refine lv_iconst (v := nI 1) hx hb dX1_keepOrLetFall_46 (by decide) ?_
    refine lv_iadd hx hb dX1_keepOrLetFall_47 ?_
    refine x_ast F hI 2 (show 2 < 13 by omega) rfl dX1_keepOrLetFall_48 (fun H locs hI => ?_)
    have hI : kI D _ A s.heap (xinc S38 2 2) H locs := hI
    generalize hS48 : xinc S38 2 2 = S48 at hI
    have ha : a ∈ S48.2.2.2.1 := by rw [← hS48]; exact ha
    refine lv_aload_n hx hb dX1_keepOrLetFall_49 rfl (lv_at hl 2 rfl) ?_
    refine lv_iconst (v := nI 1) hx hb dX1_keepOrLetFall_50 (by decide) ?_
    refine x_cput (ty := .boolean) F hI ha 10 (by decide) rfl flX1_124 (by decide +kernel) rfl rfl rfl dX1_keepOrLetFall_51 (fun H locs hI => ?_)
    have hI : kI D _ A s.heap (xc S48 a 10 (nI 1)) H locs := hI
    generalize hS51 : xc S48 a 10 (nI 1) = S51 at hI
    have ha : a ∈ S51.2.2.2.1 := by rw [← hS51]; exact ha
    have h1 : cf S51 a 1 = nI sh := by rw [← hS51, cf_ne (by decide), ← hS48, ← hS38]; exact h1
    have h8 : cf S51 a 8 = w := by rw [← hS51, cf_ne (by decide), ← hS48, ← hS38]; exact h8
    refine lv_aload_n hx hb dX1_keepOrLetFall_54 rfl (lv_at hl 1 rfl) ?_
    refine x_get F hI 3 (by decide) rfl flX1_30 dX1_keepOrLetFall_55 ?_
    refine lv_aload_n hx hb dX1_keepOrLetFall_58 rfl (lv_at hl 2 rfl) ?_
    refine x_cget F hI ha 1 (by decide) rfl flX1_112 dX1_keepOrLetFall_59 ?_
    refine ktop (y := nI (sh)) (by exact h1) ?_
    refine x_tal F hI (s' := (sh)) (by omega) rfl dX1_keepOrLetFall_62 ?_
    refine lv_iconst (v := nI 1) hx hb dX1_keepOrLetFall_63 (by decide) ?_
    refine lv_dup2_11 hx hb dX1_keepOrLetFall_64 rfl rfl ?_
    refine x_tald F hI (s' := (sh)) (by omega) (show 1 < 7 by omega) rfl dX1_keepOrLetFall_65 ?_
    refine lv_aload_n hx hb dX1_keepOrLetFall_66 rfl (lv_at hl 2 rfl) ?_
    refine x_cget F hI ha 8 (by decide) rfl flX1_134 dX1_keepOrLetFall_67 ?_
    refine ktop (y := w) (by exact h8) ?_
    refine lv_iadd hx hb dX1_keepOrLetFall_70 ?_
    refine x_tast F hI (s' := (sh)) (by omega) (show 1 < 7 by omega) rfl dX1_keepOrLetFall_71 (fun H locs hI => ?_)
    exact kret_v F hI dX1_keepOrLetFall_72 (⟨rfl, by rw [x_keepS, if_neg (by omega), hS38, hS48, hS51]; rfl⟩)
  ·
    rw [nI_ltI (by omega) (by omega)] at c10
    refine lv_aload_n hx hb dX1_keepOrLetFall_13 rfl (lv_at hl 1 rfl) ?_
    refine x_get F hI 3 (by decide) rfl flX1_30 dX1_keepOrLetFall_14 ?_
    refine lv_aload_n hx hb dX1_keepOrLetFall_17 rfl (lv_at hl 2 rfl) ?_
    refine x_cget F hI ha 1 (by decide) rfl flX1_112 dX1_keepOrLetFall_18 ?_
    refine ktop (y := nI (sh)) (by exact h1) ?_
    refine x_tal F hI (s' := (sh)) (by omega) rfl dX1_keepOrLetFall_21 ?_
    refine lv_iconst (v := nI 3) hx hb dX1_keepOrLetFall_22 (by decide) ?_
    refine lv_dup2_11 hx hb dX1_keepOrLetFall_23 rfl rfl ?_
    refine x_tald F hI (s' := (sh)) (by omega) (show 3 < 7 by omega) rfl dX1_keepOrLetFall_24 ?_
    refine lv_aload_n hx hb dX1_keepOrLetFall_25 rfl (lv_at hl 2 rfl) ?_
    refine x_cget F hI ha 8 (by decide) rfl flX1_134 dX1_keepOrLetFall_26 ?_
    refine ktop (y := w) (by exact h8) ?_
    refine lv_iadd hx hb dX1_keepOrLetFall_29 ?_
    refine x_tast F hI (s' := (sh)) (by omega) (show 3 < 7 by omega) rfl dX1_keepOrLetFall_30 (fun H locs hI => ?_)
    exact kret_v F hI dX1_keepOrLetFall_31 (⟨rfl, by rw [x_keepS, if_pos (by omega)]; rfl⟩)
theorem xc_decide (st : XS) (a n sh z e' : Nat) (tn : Bool) (ha : a ∈ st.2.2.2.1) (hn : n < 100) (hs : sh < 5) (hz : z < 8192) (he : e' ≤ 20) (h0 : cf st a 0 = nI n) (h1 : cf st a 1 = nI sh) (h5 : cf st a 5 = nI z) (h2 : st.1 2 2 = nI e') : kM l yX1_decide cX1_decide 3 none 4 85 0 0 D (xty K) (xw g K) [.ref (g 0), .ref a, .int (bI tn)] st (fun v u => v = none ∧ u = x_decS st a n sh z tn e') := by
  refine kM_intro (by decide) (Nat.le_of_ble_eq_true rfl) ?_
  intro p e s m below meth c A ls F hA hI hl
  obtain ⟨hx, hb, hr, hml, hown, hts, hlk, hK, hnm⟩ := id F
  have hl : lv_has ls 3 [(0, .ref (g 0)), (1, .ref a), (2, .int (bI tn))] := hl
  have hsl := stp_lt z
  generalize hS4 : x_d1 st a n tn = S4
  have ha4 : a ∈ S4.2.2.2.1 := by rw [← hS4]; exact ha
  have h14 : cf S4 a 1 = nI sh := by rw [← hS4, x_d1, xcnow, cf_ne (by decide), cf_ne (by decide)]; exact h1
  have h54 : cf S4 a 5 = nI z := by rw [← hS4, x_d1, xcnow, cf_ne (by decide), cf_ne (by decide)]; exact h5
  have h24 : S4.1 2 2 = nI e' := by rw [← hS4]; show (x_stop st n).1 2 2 = nI e'; rw [x_stop, xsub, xset_a, pk_un (by decide)]; exact h2
  generalize hw : x_weigh S4 sh (nI z) tn = w
  have hwo : x_only S4 w.2 := by rw [← hw]; exact x_only_weigh _ _ _ _
  have haw : a ∈ w.2.2.2.2.1 := by rw [hwo.2.1]; exact ha4
  have h1w : cf w.2 a 1 = nI sh := by unfold cf; rw [hwo.2.1]; exact h14
  have h5w : cf w.2 a 5 = nI z := by unfold cf; rw [hwo.2.1]; exact h54
  have h2w : w.2.1 2 2 = nI e' := by rw [hwo.2.2 2 (by decide)]; exact h24
  have hfin : x_decS st a n sh z tn e' = x_fin (x_d2 (xc w.2 a 8 w.1) sh z tn) a sh e' w.1 := by rw [x_decS, hS4, hw]
  have h108 : ∀ (u : XS) (H : Heap) (locs : List Loc) (ls : Array Slot), kI D (xw g K) A s.heap u H locs → u = x_d2 (xc w.2 a 8 w.1) sh z tn → lv_has ls 3 [(0, .ref (g 0)), (1, .ref a), (2, .int (bI tn))] → W p l e { frames := 4, cells := 0, slots := 0, locals := 85 } s m #[.ref (g 0), .ref a, .int (bI tn)] below meth c H locs 0 0 (MQ below (kQ D (xty K) (xw g K) (fun v u => v = none ∧ u = x_decS st a n sh z tn e') A) #[.ref (g 0), .ref a, .int (bI tn)] s 0 0 A) (F0 m 108 ls []) := by
    intro u H locs ls hI hu hl
    have huc : u.2 = (xc w.2 a 8 w.1).2 := by rw [hu, x_d2, x_tn]; split <;> rfl
    have hau : a ∈ u.2.2.2.1 := by rw [huc]; exact haw
    have hu8 : cf u a 8 = w.1 := by unfold cf; rw [huc]; exact cf_eq
    have hu1 : cf u a 1 = nI sh := by unfold cf; rw [huc]; exact (cf_ne (by decide)).trans h1w
    have hu2 : u.1 2 2 = nI e' := by
      have q : (xinc (xinc (xinc (xc w.2 a 8 w.1) (4 + sh) 0) 3 (stp z)) 2 10).1 2 2 = nI e' := by
        rw [xinc, xset_a, pk_un (by decide), xinc, xset_k (by decide), xinc, xset_k (by omega)]
        exact h2w
      rw [hu, x_d2, x_tn]
      split
      · rw [xinc, xset_a, pk_un (by decide)]; exact q
      · exact q
    refine lv_aload_n hx hb dX1_decide_108 rfl (lv_at hl 1 rfl) ?_
    refine x_cget F hI hau 8 (by decide) rfl flX1_134 dX1_decide_109 ?_
    refine ktop (y := w.1) (by exact hu8) ?_
    refine lv_if_le (tgt := 120) hx hb dX1_decide_112 (by decide) (fun c112 => ?_) (fun c112 => ?_)
    ·
      exact kret_v F hI dX1_decide_120 (⟨rfl, by rw [hfin, x_fin, if_pos c112, hu]⟩)
    ·
      refine lv_aload_n hx hb dX1_decide_115 rfl (lv_at hl 0 rfl) ?_
      refine lv_aload_n hx hb dX1_decide_116 rfl (lv_at hl 1 rfl) ?_
      refine kcallV (rest := []) F hA hI (xc_keep l _ a sh e' w.1 hau hs he hu1 hu8 hu2) kgX1_186 (x_rec F hI) hl.1 rfl rfl (Nat.le_of_ble_eq_true rfl) dX1_decide_117 ⟨Nat.le_of_ble_eq_true rfl, Nat.le_of_ble_eq_true rfl⟩ ⟨Nat.le_of_ble_eq_true rfl, Nat.le_of_ble_eq_true rfl⟩ (fun vq uq H locs hp hI => ?_)
      obtain ⟨rfl, hu⟩ := hp
      rw [hu] at hI
      clear hu
      refine kstk (b := []) rfl ?_
      exact kret_v F hI dX1_decide_120 (⟨rfl, by rw [hfin, x_fin, if_neg c112, hu]⟩)
  have h48 : ∀ (H : Heap) (locs : List Loc) (ls : Array Slot), kI D (xw g K) A s.heap w.2 H locs → lv_has ls 3 [(0, .ref (g 0)), (1, .ref a), (2, .int (bI tn))] → W p l e { frames := 4, cells := 0, slots := 0, locals := 85 } s m #[.ref (g 0), .ref a, .int (bI tn)] below meth c H locs 0 0 (MQ below (kQ D (xty K) (xw g K) (fun v u => v = none ∧ u = x_decS st a n sh z tn e') A) #[.ref (g 0), .ref a, .int (bI tn)] s 0 0 A) (F0 m 48 ls [.int w.1, .ref a]) := by
    intro H locs ls hI hl
    refine x_cput (ty := .int) F hI haw 8 (by decide) rfl flX1_134 (by decide +kernel) rfl rfl rfl dX1_decide_48 (fun H locs hI => ?_)
    have hI : kI D _ A s.heap (xc w.2 a 8 w.1) H locs := hI
    generalize hS48 : xc w.2 a 8 w.1 = S48 at hI
    have ha8 : a ∈ S48.2.2.2.1 := by rw [← hS48]; exact haw
    have h18 : cf S48 a 1 = nI sh := by rw [← hS48, cf_ne (by decide)]; exact h1w
    have h58 : cf S48 a 5 = nI z := by rw [← hS48, cf_ne (by decide)]; exact h5w
    refine lv_aload_n hx hb dX1_decide_51 rfl (lv_at hl 0 rfl) ?_
    refine x_get F hI 3 (by decide) rfl flX1_30 dX1_decide_52 ?_
    refine lv_aload_n hx hb dX1_decide_55 rfl (lv_at hl 1 rfl) ?_
    refine x_cget F hI ha8 1 (by decide) rfl flX1_112 dX1_decide_56 ?_
    refine ktop (y := nI (sh)) (by exact h18) ?_
    refine x_tal F hI (s' := (sh)) (by omega) rfl dX1_decide_59 ?_
    refine lv_iconst (v := nI 0) hx hb dX1_decide_60 (by decide) ?_
    refine lv_dup2_11 hx hb dX1_decide_61 rfl rfl ?_
    refine x_tald F hI (s' := (sh)) (by omega) (show 0 < 7 by omega) rfl dX1_decide_62 ?_
    refine lv_iconst (v := nI 1) hx hb dX1_decide_63 (by decide) ?_
    refine lv_iadd hx hb dX1_decide_64 ?_
    refine x_tast F hI (s' := (sh)) (by omega) (show 0 < 7 by omega) rfl dX1_decide_65 (fun H locs hI => ?_)
    have hI : kI D _ A s.heap (xinc S48 (4 + sh) 0) H locs := hI
    generalize hS65 : xinc S48 (4 + sh) 0 = S65 at hI
    refine lv_aload_n hx hb dX1_decide_66 rfl (lv_at hl 0 rfl) ?_
    refine x_get F hI 4 (by decide) rfl flX1_33 dX1_decide_67 ?_
    refine lv_aload_n hx hb dX1_decide_70 rfl (lv_at hl 1 rfl) ?_
    refine x_cget F hI (show a ∈ S65.2.2.2.1 by rw [← hS65]; exact ha8) 5 (by decide) rfl flX1_115 dX1_decide_71 ?_
    refine ktop (y := nI (z)) (by rw [← hS65]; exact h58) ?_
    refine kcallS (rest := [.ref _]) F hA hI (xc_stepOf l _ z hz) kgX1_183 hl.1 rfl rfl (Nat.le_of_ble_eq_true rfl) dX1_decide_74 ⟨Nat.le_of_ble_eq_true rfl, Nat.le_of_ble_eq_true rfl⟩ ⟨Nat.le_of_ble_eq_true rfl, Nat.le_of_ble_eq_true rfl⟩ (fun vq uq H locs hp hI => ?_)
    obtain ⟨rfl, hu⟩ := hp
    rw [hu] at hI
    clear hu
    refine kstk (b := .int _ :: [.ref _]) rfl ?_
    refine lv_dup2_11 hx hb dX1_decide_77 rfl rfl ?_
    refine x_ald F hI 3 (show (stp z) < 14 by omega) rfl dX1_decide_78 ?_
    refine lv_iconst (v := nI 1) hx hb dX1_decide_79 (by decide) ?_
    refine lv_iadd hx hb dX1_decide_80 ?_
    refine x_ast F hI 3 (show (stp z) < 14 by omega) rfl dX1_decide_81 (fun H locs hI => ?_)
    have hI : kI D _ A s.heap (xinc S65 3 (stp z)) H locs := hI
    generalize hS81 : xinc S65 3 (stp z) = S81 at hI
    refine lv_aload_n hx hb dX1_decide_82 rfl (lv_at hl 0 rfl) ?_
    refine x_get F hI 2 (by decide) rfl flX1_25 dX1_decide_83 ?_
    refine lv_bipush (v := nI 10) hx hb dX1_decide_86 (by decide) ?_
    refine lv_dup2_11 hx hb dX1_decide_88 rfl rfl ?_
    refine x_ald F hI 2 (show 10 < 13 by omega) rfl dX1_decide_89 ?_
    refine lv_iconst (v := nI 1) hx hb dX1_decide_90 (by decide) ?_
    refine lv_iadd hx hb dX1_decide_91 ?_
    refine x_ast F hI 2 (show 10 < 13 by omega) rfl dX1_decide_92 (fun H locs hI => ?_)
    have hI : kI D _ A s.heap (xinc S81 2 10) H locs := hI
    generalize hS92 : xinc S81 2 10 = S92 at hI
    refine lv_iload_n hx hb dX1_decide_93 rfl (lv_at hl 2 rfl) ?_
    refine lv_if_eq (tgt := 108) hx hb dX1_decide_94 (by decide) (fun c94 => ?_) (fun c94 => ?_)
    ·
      rw [bI_z] at c94
      exact h108 _ _ _ _ hI (by rw [x_d2, hS48, hS65, hS81, hS92, x_tn, if_neg (by rw [c94]; decide)]) hl
    ·
      rw [bI_z] at c94
      refine lv_aload_n hx hb dX1_decide_97 rfl (lv_at hl 0 rfl) ?_
      refine x_get F hI 2 (by decide) rfl flX1_25 dX1_decide_98 ?_
      refine lv_bipush (v := nI 11) hx hb dX1_decide_101 (by decide) ?_
      refine lv_dup2_11 hx hb dX1_decide_103 rfl rfl ?_
      refine x_ald F hI 2 (show 11 < 13 by omega) rfl dX1_decide_104 ?_
      refine lv_iconst (v := nI 1) hx hb dX1_decide_105 (by decide) ?_
      refine lv_iadd hx hb dX1_decide_106 ?_
      refine x_ast F hI 2 (show 11 < 13 by omega) rfl dX1_decide_107 (fun H locs hI => ?_)
      exact h108 _ _ _ _ hI (by rw [x_d2, hS48, hS65, hS81, hS92, x_tn, if_pos (by simpa using c94)]; rfl) hl
  refine lv_aload_n hx hb dX1_decide_0 rfl (lv_at hl 0 rfl) ?_
  refine lv_aload_n hx hb dX1_decide_1 rfl (lv_at hl 1 rfl) ?_
  refine kcallV (rest := []) F hA hI (xc_stop l _ a n ha hn h0) kgX1_152 (x_rec F hI) hl.1 rfl rfl (Nat.le_of_ble_eq_true rfl) dX1_decide_2 ⟨Nat.le_of_ble_eq_true rfl, Nat.le_of_ble_eq_true rfl⟩ ⟨Nat.le_of_ble_eq_true rfl, Nat.le_of_ble_eq_true rfl⟩ (fun vq uq H locs hp hI => ?_)
  obtain ⟨rfl, hu⟩ := hp
  rw [hu] at hI
  clear hu
  refine kstk (b := []) rfl ?_
  have hI : kI D _ A s.heap (x_stop st n) H locs := hI
  generalize hS2 : x_stop st n = S2 at hI
  have ha2 : a ∈ S2.2.2.2.1 := by rw [← hS2]; exact ha
  refine lv_aload_n hx hb dX1_decide_5 rfl (lv_at hl 0 rfl) ?_
  refine x_get F hI 6 (by decide) rfl flX1_42 dX1_decide_6 ?_
  refine lv_aload_n hx hb dX1_decide_9 rfl (lv_at hl 1 rfl) ?_
  refine x_cget F hI ha2 0 (by decide) rfl flX1_131 dX1_decide_10 ?_
  refine ktop (y := nI (n)) (by rw [← hS2]; exact h0) ?_
  refine lv_aload_n hx hb dX1_decide_13 rfl (lv_at hl 1 rfl) ?_
  refine x_rst F hI ha2 1 (show (n) < 100 by omega) rfl dX1_decide_14 (fun H locs hI => ?_)
  have hI : kI D _ A s.heap (xrf S2 1 n (some a)) H locs := hI
  generalize hS14 : xrf S2 1 n (some a) = S14 at hI
  have ha3 : a ∈ S14.2.2.2.1 := by rw [← hS14]; exact ha2
  refine lv_aload_n hx hb dX1_decide_15 rfl (lv_at hl 1 rfl) ?_
  refine lv_iload_n hx hb dX1_decide_16 rfl (lv_at hl 2 rfl) ?_
  refine x_cput (ty := .boolean) F hI ha3 9 (by decide) rfl flX1_137 (by decide +kernel) (bI_nar tn) (by cases tn <;> rfl) rfl dX1_decide_17 (fun H locs hI => ?_)
  have hI : kI D _ A s.heap (xc S14 a 9 (bI tn)) H locs := hI
  generalize hS17 : xc S14 a 9 (bI tn) = S17 at hI
  have ha5 : a ∈ S17.2.2.2.1 := by rw [← hS17]; exact ha3
  refine lv_aload_n hx hb dX1_decide_20 rfl (lv_at hl 1 rfl) ?_
  refine lv_aload_n hx hb dX1_decide_21 rfl (lv_at hl 0 rfl) ?_
  refine x_get F hI 2 (by decide) rfl flX1_25 dX1_decide_22 ?_
  refine lv_iconst (v := nI 0) hx hb dX1_decide_25 (by decide) ?_
  refine x_ald F hI 2 (show 0 < 13 by omega) rfl dX1_decide_26 ?_
  refine x_cput (ty := .int) F hI ha5 7 (by decide) rfl flX1_140 (by decide +kernel) rfl rfl rfl dX1_decide_27 (fun H locs hI => ?_)
  have hI : kI D _ A s.heap (xcnow S17 a 7) H locs := hI
  generalize hS27 : xcnow S17 a 7 = S27 at hI
  have e27 : S27 = S4 := by rw [← hS4, x_d1, hS2, hS14, hS17, hS27]
  rw [e27] at hI
  refine lv_aload_n hx hb dX1_decide_30 rfl (lv_at hl 1 rfl) ?_
  refine lv_iload_n hx hb dX1_decide_31 rfl (lv_at hl 2 rfl) ?_
  refine lv_if_eq (tgt := 43) hx hb dX1_decide_32 (by decide) (fun c32 => ?_) (fun c32 => ?_)
  ·
    rw [bI_z] at c32
    refine lv_aload_n hx hb dX1_decide_43 rfl (lv_at hl 0 rfl) ?_
    refine lv_aload_n hx hb dX1_decide_44 rfl (lv_at hl 1 rfl) ?_
    refine kcallV (rest := [.ref _]) F hA hI (xc_rare l _ a sh (nI z) ha4 hs h14 h54) kgX1_180 (x_rec F hI) hl.1 rfl rfl (Nat.le_of_ble_eq_true rfl) dX1_decide_45 ⟨Nat.le_of_ble_eq_true rfl, Nat.le_of_ble_eq_true rfl⟩ ⟨Nat.le_of_ble_eq_true rfl, Nat.le_of_ble_eq_true rfl⟩ (fun vq uq H locs hp hI => ?_)
    obtain ⟨rfl, hu⟩ := hp
    rw [hu] at hI
    clear hu
    refine kstk (b := .int _ :: [.ref _]) rfl ?_
    have ew : x_rareS S4 sh (nI z) = w := by rw [← hw, x_weigh, if_neg (by rw [c32]; decide)]
    rw [ew] at hI ⊢
    exact h48 _ _ _ hI hl
  ·
    rw [bI_z] at c32
    refine lv_aload_n hx hb dX1_decide_35 rfl (lv_at hl 0 rfl) ?_
    refine lv_aload_n hx hb dX1_decide_36 rfl (lv_at hl 1 rfl) ?_
    refine kcallV (rest := [.ref _]) F hA hI (xc_torn l _ a sh (nI z) ha4 hs h14 h54) kgX1_176 (x_rec F hI) hl.1 rfl rfl (Nat.le_of_ble_eq_true rfl) dX1_decide_37 ⟨Nat.le_of_ble_eq_true rfl, Nat.le_of_ble_eq_true rfl⟩ ⟨Nat.le_of_ble_eq_true rfl, Nat.le_of_ble_eq_true rfl⟩ (fun vq uq H locs hp hI => ?_)
    obtain ⟨rfl, hu⟩ := hp
    rw [hu] at hI
    clear hu
    refine kstk (b := .int _ :: [.ref _]) rfl ?_
    refine lv_goto (tgt := 48) hx hb dX1_decide_40 (by decide) ?_
    have ew : x_tornS S4 sh (nI z) = w := by rw [← hw, x_weigh, if_pos (by simpa using c32)]
    rw [ew] at hI ⊢
    exact h48 _ _ _ hI hl
end XC2
