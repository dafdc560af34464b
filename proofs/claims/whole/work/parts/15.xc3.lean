theorem isB_t {n N : Nat} (h : n < N) (hN : N < 2 ^ 31) : decide (¬ nI n < 0 ∧ ¬ nI N ≤ nI n) = true := by
  rw [decide_eq_true_eq, nI_leI hN (by omega)]
  exact ⟨nI_pos (by omega), by omega⟩
set_option maxRecDepth 100000 in
theorem oiX0 : Cond.methodLink RX0 3 objectInit ∈ wsL_law := List.mem_of_getElem? (i := 198) rfl
set_option maxRecDepth 100000 in
theorem oiX1 : Cond.methodLink RX1 1 objectInit ∈ wsL_law := List.mem_of_getElem? (i := 9) rfl
set_option maxRecDepth 100000 in
theorem oiX2 : Cond.methodLink RX2 1 objectInit ∈ wsL_law := List.mem_of_getElem? (i := 35) rfl
set_option maxRecDepth 100000 in
theorem oiI : Cond.instanceMethod objectInit ∈ wsL_law := List.mem_of_getElem? (i := 10) rfl
set_option maxRecDepth 100000 in
theorem oiC : Cond.code objectInit ⟨#[0xb1]⟩ 1 none ∈ wsL_law := List.mem_of_getElem? (i := 11) rfl
set_option maxRecDepth 100000 in
theorem nwC : Cond.classLink RX1 36 RX0 ∈ wsL_law := List.mem_of_getElem? (i := 27) rfl
set_option maxRecDepth 100000 in
theorem nwI : Cond.instantiable RX0 12 ∈ wsL_law := List.mem_of_getElem? (i := 116) rfl
set_option maxRecDepth 100000 in
theorem nwN : Cond.initialized RX0 ∈ wsL_law := List.mem_of_getElem? (i := 117) rfl
/-! the class: a piece -/
def x_dec (st : XS) (a : Nat) (tn : Bool) : XS := x_decS st a (cf st a 0).toNatClampNeg (cf st a 1).toNatClampNeg (cf st a 5).toNatClampNeg tn (st.1 2 2).toNatClampNeg
def x_last (st : XS) (a pq : Nat) (il : Bool) : XS := if il = true then xc st a 6 (nI pq) else st
def x_tk (st : XS) (a pq : Nat) (il : Bool) (z : Nat) : XS := x_last (x_add st a pq (nI z)) a pq il
def x_takeIn (st : XS) (a pq : Nat) (il : Bool) (z : Nat) : Nat × XS := if x_whole (cf (x_tk st a pq il z) a 6) (cf (x_tk st a pq il z) a 4) = true then (2, x_dec (x_tk st a pq il z) a false) else (1, x_tk st a pq il z)
def x_hearW (st : XS) (a pq : Nat) (il : Bool) (z : Nat) : Nat × XS := if x_has (cf st a 4) pq = true then (3, xinc st 2 5) else if x_contr (cf st a 6) (cf st a 4) pq il = true then (4, xinc st 2 6) else x_takeIn st a pq il z
def x_recall (st : XS) (n : Nat) : Option Nat := match st.2.1 1 n with
  | none => none
  | some a => if cf st a 11 = 0 ∧ st.1 2 0 - cf st a 7 < nI 50 then some a else none
def x_hearD (st : XS) (a pq z : Nat) : Nat × XS := if cf st a 10 = 0 ∨ st.1 1 5 < st.1 2 0 - cf st a 7 ∨ x_has (cf st a 4) pq = true then (6, xinc st 2 8) else (5, xinc (x_add st a pq (nI z)) 2 7)
def x_first (st : XS) (q n sh : Nat) : XS := xinc (xrf (x_born (xnew st q) q (nI n) (nI sh) (hm (x_up st) n) (st.1 2 0)) 0 n (some q)) 2 1
def x_piece (st : XS) (q n pq : Nat) (il : Bool) (sh z : Nat) : Nat × XS :=
  if hm (x_up st) n = -9 then (7, xinc st 2 9)
  else match st.2.1 0 n with
    | some a => x_hearW st a pq il z
    | none => match x_recall st n with
      | some a => x_hearD st a pq z
      | none => if st.1 2 1 < nI 24 then x_takeIn (x_first st q n sh) q pq il z else (7, xinc st 2 9)
theorem fresh_ex (L : List Nat) : ∃ q, q ∉ L := by
  have key : ∀ L : List Nat, ∃ b, ∀ x ∈ L, x < b := by
    intro L
    induction L with
    | nil => exact ⟨0, fun x h => by cases h⟩
    | cons y L ih =>
      obtain ⟨b, hb⟩ := ih
      refine ⟨b + y + 1, fun x hx => ?_⟩
      rcases List.mem_cons.mp hx with rfl | hx
      · omega
      · have := hb x hx
        omega
  obtain ⟨b, hb⟩ := key L
  exact ⟨b, fun h => Nat.lt_irrefl b (hb b h)⟩
/-- what a call that waits is, for the piece pq of length z -/
def x_okW (st : XS) (a n pq z : Nat) : Prop := a ∈ st.2.2.2.1 ∧ cf st a 0 = nI n ∧ ∃ sh zl, sh < 5 ∧ cf st a 1 = nI sh ∧ cf st a 5 = nI zl ∧ (x_has (cf st a 4) pq = false → zl + z < 8192)
section XC3
variable (l : Launch) {D : va_G} {g : Nat → Nat} {K : Nat → ClassId}
theorem xc_init (st : XS) (a : Nat) (nn sn kn tt : Int32) (ha : a ∈ st.2.2.2.1) : kM l yX0_init cX0_init 5 none 1 14 0 0 D (xty K) (xw g K) [.ref a, .int nn, .int sn, .int kn, .int tt] st (fun v u => v = none ∧ u = x_born st a nn sn kn tt) := by
  refine kM_intro (by decide) (Nat.le_of_ble_eq_true rfl) ?_
  intro p e s m below meth c A ls F hA hI hl
  obtain ⟨hx, hb, hr, hml, hown, hts, hlk, hK, hnm⟩ := id F
  have hl : lv_has ls 5 [(0, .ref a), (1, .int nn), (2, .int sn), (3, .int kn), (4, .int tt)] := hl
  refine lv_aload_n hx hb dX0_init_0 rfl (lv_at hl 0 rfl) ?_
  refine W.objInit hx hb hown (hts _ oiX0) (hts _ oiI) (hts _ oiC) rfl (by rw [hml]; exact hl.1) rfl dX0_init_1 (Nat.le_of_ble_eq_true rfl) (Nat.le_of_ble_eq_true rfl) ?_
  refine W.eq (g2 := F0 m 4 ls []) rfl ?_
  refine lv_aload_n hx hb dX0_init_4 rfl (lv_at hl 0 rfl) ?_
  refine lv_iconst (v := nI 0) hx hb dX0_init_5 (by decide) ?_
  refine x_cput (ty := .int) F hI ha 4 (by decide) rfl flX0_9 (by decide +kernel) rfl rfl rfl dX0_init_6 (fun H locs hI => ?_)
  have hI : kI D _ A s.heap (xc st a 4 (nI 0)) H locs := hI
  generalize hS6 : xc st a 4 (nI 0) = S6 at hI
  have ha : a ∈ S6.2.2.2.1 := by rw [← hS6]; exact ha
  refine lv_aload_n hx hb dX0_init_9 rfl (lv_at hl 0 rfl) ?_
  refine lv_iconst (v := nI 0) hx hb dX0_init_10 (by decide) ?_
  refine x_cput (ty := .int) F hI ha 5 (by decide) rfl flX0_15 (by decide +kernel) rfl rfl rfl dX0_init_11 (fun H locs hI => ?_)
  have hI : kI D _ A s.heap (xc S6 a 5 (nI 0)) H locs := hI
  generalize hS11 : xc S6 a 5 (nI 0) = S11 at hI
  have ha : a ∈ S11.2.2.2.1 := by rw [← hS11]; exact ha
  refine lv_aload_n hx hb dX0_init_14 rfl (lv_at hl 0 rfl) ?_
  refine lv_bipush (v := -9) hx hb dX0_init_15 (by decide) ?_
  refine x_cput (ty := .int) F hI ha 6 (by decide) rfl flX0_18 (by decide +kernel) rfl rfl rfl dX0_init_17 (fun H locs hI => ?_)
  have hI : kI D _ A s.heap (xc S11 a 6 (-9)) H locs := hI
  generalize hS17 : xc S11 a 6 (-9) = S17 at hI
  have ha : a ∈ S17.2.2.2.1 := by rw [← hS17]; exact ha
  refine lv_aload_n hx hb dX0_init_20 rfl (lv_at hl 0 rfl) ?_
  refine lv_iconst (v := nI 0) hx hb dX0_init_21 (by decide) ?_
  refine x_cput (ty := .int) F hI ha 7 (by decide) rfl flX0_21 (by decide +kernel) rfl rfl rfl dX0_init_22 (fun H locs hI => ?_)
  have hI : kI D _ A s.heap (xc S17 a 7 (nI 0)) H locs := hI
  generalize hS22 : xc S17 a 7 (nI 0) = S22 at hI
  have ha : a ∈ S22.2.2.2.1 := by rw [← hS22]; exact ha
  refine lv_aload_n hx hb dX0_init_25 rfl (lv_at hl 0 rfl) ?_
  refine lv_iconst (v := nI 0) hx hb dX0_init_26 (by decide) ?_
  refine x_cput (ty := .int) F hI ha 8 (by decide) rfl flX0_24 (by decide +kernel) rfl rfl rfl dX0_init_27 (fun H locs hI => ?_)
  have hI : kI D _ A s.heap (xc S22 a 8 (nI 0)) H locs := hI
  generalize hS27 : xc S22 a 8 (nI 0) = S27 at hI
  have ha : a ∈ S27.2.2.2.1 := by rw [← hS27]; exact ha
  refine lv_aload_n hx hb dX0_init_30 rfl (lv_at hl 0 rfl) ?_
  refine lv_iconst (v := nI 0) hx hb dX0_init_31 (by decide) ?_
  refine x_cput (ty := .boolean) F hI ha 9 (by decide) rfl flX0_27 (by decide +kernel) rfl rfl rfl dX0_init_32 (fun H locs hI => ?_)
  have hI : kI D _ A s.heap (xc S27 a 9 (nI 0)) H locs := hI
  generalize hS32 : xc S27 a 9 (nI 0) = S32 at hI
  have ha : a ∈ S32.2.2.2.1 := by rw [← hS32]; exact ha
  refine lv_aload_n hx hb dX0_init_35 rfl (lv_at hl 0 rfl) ?_
  refine lv_iconst (v := nI 0) hx hb dX0_init_36 (by decide) ?_
  refine x_cput (ty := .boolean) F hI ha 10 (by decide) rfl flX0_31 (by decide +kernel) rfl rfl rfl dX0_init_37 (fun H locs hI => ?_)
  have hI : kI D _ A s.heap (xc S32 a 10 (nI 0)) H locs := hI
  generalize hS37 : xc S32 a 10 (nI 0) = S37 at hI
  have ha : a ∈ S37.2.2.2.1 := by rw [← hS37]; exact ha
  refine lv_aload_n hx hb dX0_init_40 rfl (lv_at hl 0 rfl) ?_
  refine lv_iconst (v := nI 0) hx hb dX0_init_41 (by decide) ?_
  refine x_cput (ty := .boolean) F hI ha 11 (by decide) rfl flX0_34 (by decide +kernel) rfl rfl rfl dX0_init_42 (fun H locs hI => ?_)
  have hI : kI D _ A s.heap (xc S37 a 11 (nI 0)) H locs := hI
  generalize hS42 : xc S37 a 11 (nI 0) = S42 at hI
  have ha : a ∈ S42.2.2.2.1 := by rw [← hS42]; exact ha
  refine lv_aload_n hx hb dX0_init_45 rfl (lv_at hl 0 rfl) ?_
  refine lv_iload_n hx hb dX0_init_46 rfl (lv_at hl 1 rfl) ?_
  refine x_cputF F hI ha 0 (by decide) flX0_37 (by decide +kernel) rfl rfl rfl dX0_init_47 (fun H locs hI => ?_)
  have hI : kI D _ A s.heap (xc S42 a 0 nn) H locs := hI
  generalize hS47 : xc S42 a 0 nn = S47 at hI
  have ha : a ∈ S47.2.2.2.1 := by rw [← hS47]; exact ha
  refine lv_aload_n hx hb dX0_init_50 rfl (lv_at hl 0 rfl) ?_
  refine lv_iload_n hx hb dX0_init_51 rfl (lv_at hl 2 rfl) ?_
  refine x_cputF F hI ha 1 (by decide) flX0_40 (by decide +kernel) rfl rfl rfl dX0_init_52 (fun H locs hI => ?_)
  have hI : kI D _ A s.heap (xc S47 a 1 sn) H locs := hI
  generalize hS52 : xc S47 a 1 sn = S52 at hI
  have ha : a ∈ S52.2.2.2.1 := by rw [← hS52]; exact ha
  refine lv_aload_n hx hb dX0_init_55 rfl (lv_at hl 0 rfl) ?_
  refine lv_iload_n hx hb dX0_init_56 rfl (lv_at hl 3 rfl) ?_
  refine x_cput (ty := .int) F hI ha 3 (by decide) rfl flX0_43 (by decide +kernel) rfl rfl rfl dX0_init_57 (fun H locs hI => ?_)
  have hI : kI D _ A s.heap (xc S52 a 3 kn) H locs := hI
  generalize hS57 : xc S52 a 3 kn = S57 at hI
  have ha : a ∈ S57.2.2.2.1 := by rw [← hS57]; exact ha
  refine lv_aload_n hx hb dX0_init_60 rfl (lv_at hl 0 rfl) ?_
  refine lv_iload hx hb dX0_init_61 (lv_at hl 4 rfl) ?_
  refine x_cputF F hI ha 2 (by decide) flX0_46 (by decide +kernel) rfl rfl rfl dX0_init_63 (fun H locs hI => ?_)
  have hI : kI D _ A s.heap (xc S57 a 2 tt) H locs := hI
  generalize hS63 : xc S57 a 2 tt = S63 at hI
  have ha : a ∈ S63.2.2.2.1 := by rw [← hS63]; exact ha
  exact kret_v F hI dX0_init_66 (⟨rfl, by rw [x_born, hS6, hS11, hS17, hS22, hS27, hS32, hS37, hS42, hS47, hS52, hS57, hS63]⟩)
theorem xc_takeIn (st : XS) (a pq : Nat) (il : Bool) (z n sh zl e' : Nat) (ha : a ∈ st.2.2.2.1) (hp : pq < 8) (hn : n < 100) (hs : sh < 5) (hzl : zl + z < 8192) (he : e' ≤ 20) (h0 : cf st a 0 = nI n) (h1 : cf st a 1 = nI sh) (h5 : cf st a 5 = nI zl) (h2 : st.1 2 2 = nI e') : kM l yX1_takeIn cX1_takeIn 5 (some .int) 5 107 0 0 D (xty K) (xw g K) [.ref (g 0), .ref a, .int (nI pq), .int (bI il), .int (nI z)] st (fun v u => v = some (.int (nI (x_takeIn st a pq il z).1)) ∧ u = (x_takeIn st a pq il z).2) := by
  refine kM_intro (by decide) (Nat.le_of_ble_eq_true rfl) ?_
  intro p e s m below meth c A ls F hA hI hl
  obtain ⟨hx, hb, hr, hml, hown, hts, hlk, hK, hnm⟩ := id F
  have hl : lv_has ls 5 [(0, .ref (g 0)), (1, .ref a), (2, .int (nI pq)), (3, .int (bI il)), (4, .int (nI z))] := hl
  have h16 : ∀ (u : XS) (H : Heap) (locs : List Loc) (ls : Array Slot), kI D (xw g K) A s.heap u H locs → u = x_tk st a pq il z → lv_has ls 5 [(0, .ref (g 0)), (1, .ref a), (2, .int (nI pq)), (3, .int (bI il)), (4, .int (nI z))] → W p l e { frames := 5, cells := 0, slots := 0, locals := 107 } s m #[.ref (g 0), .ref a, .int (nI pq), .int (bI il), .int (nI z)] below meth c H locs 0 0 (MQ below (kQ D (xty K) (xw g K) (fun v u => v = some (.int (nI (x_takeIn st a pq il z).1)) ∧ u = (x_takeIn st a pq il z).2) A) #[.ref (g 0), .ref a, .int (nI pq), .int (bI il), .int (nI z)] s 0 0 A) (F0 m 16 ls []) := by
    intro u H locs ls hI hu hl
    have huL : u.2.2.2.1 = st.2.2.2.1 := by rw [hu, x_tk, x_last]; split <;> rfl
    have hua : a ∈ u.2.2.2.1 := by rw [huL]; exact ha
    have hu0 : cf u a 0 = nI n := by rw [hu, x_tk, x_last]; split <;> simp only [x_add, xcad, xcor, cf_ne (show (0 : Nat) ≠ 6 by decide), cf_ne (show (0 : Nat) ≠ 5 by decide), cf_ne (show (0 : Nat) ≠ 4 by decide), h0]
    have hu1 : cf u a 1 = nI sh := by rw [hu, x_tk, x_last]; split <;> simp only [x_add, xcad, xcor, cf_ne (show (1 : Nat) ≠ 6 by decide), cf_ne (show (1 : Nat) ≠ 5 by decide), cf_ne (show (1 : Nat) ≠ 4 by decide), h1]
    have hu5 : cf u a 5 = nI (zl + z) := by rw [hu, x_tk, x_last]; split <;> simp only [x_add, xcad, xcor, cf_ne (show (5 : Nat) ≠ 6 by decide), cf_eq, cf_ne (show (5 : Nat) ≠ 4 by decide), h5, nI_add]
    have hu2 : u.1 2 2 = nI e' := by rw [hu, x_tk, x_last]; split <;> exact h2
    have hd : x_dec u a false = x_decS u a n sh (zl + z) false e' := by rw [x_dec, hu0, hu1, hu5, hu2, nI_clamp (by omega), nI_clamp (by omega), nI_clamp (by omega), nI_clamp (by omega)]
    refine lv_aload_n hx hb dX1_takeIn_16 rfl (lv_at hl 1 rfl) ?_
    refine kcallV (rest := []) F hA hI (xc_isWhole l _ a hua) kgX1_168 (x_crec F hI hua) hl.1 rfl rfl (Nat.le_of_ble_eq_true rfl) dX1_takeIn_17 ⟨Nat.le_of_ble_eq_true rfl, Nat.le_of_ble_eq_true rfl⟩ ⟨Nat.le_of_ble_eq_true rfl, Nat.le_of_ble_eq_true rfl⟩ (fun vq uq H locs hp hI => ?_)
    obtain ⟨rfl, hu⟩ := hp
    rw [hu] at hI
    clear hu
    refine kstk (b := .int _ :: []) rfl ?_
    refine lv_if_ne (tgt := 25) hx hb dX1_takeIn_20 (by decide) (fun c20 => ?_) (fun c20 => ?_)
    ·
      rw [bI_z] at c20
      refine lv_aload_n hx hb dX1_takeIn_25 rfl (lv_at hl 0 rfl) ?_
      refine lv_aload_n hx hb dX1_takeIn_26 rfl (lv_at hl 1 rfl) ?_
      refine lv_iconst (v := nI 0) hx hb dX1_takeIn_27 (by decide) ?_
      refine kcallV (rest := []) F hA hI (xc_decide l _ a n sh (zl + z) e' false hua hn hs hzl he hu0 hu1 hu5 hu2) kgX1_172 (x_rec F hI) hl.1 rfl rfl (Nat.le_of_ble_eq_true rfl) dX1_takeIn_28 ⟨Nat.le_of_ble_eq_true rfl, Nat.le_of_ble_eq_true rfl⟩ ⟨Nat.le_of_ble_eq_true rfl, Nat.le_of_ble_eq_true rfl⟩ (fun vq uq H locs hp hI => ?_)
      obtain ⟨rfl, hu⟩ := hp
      rw [hu] at hI
      clear hu
      refine kstk (b := []) rfl ?_
      refine lv_iconst (v := nI 2) hx hb dX1_takeIn_31 (by decide) ?_
      exact kret_i F hI dX1_takeIn_32 (⟨by simp at c20; simp [x_takeIn, ← hu, c20], by simp at c20; simp [x_takeIn, ← hu, c20, hd]⟩)
    ·
      rw [bI_z] at c20
      refine lv_iconst (v := nI 1) hx hb dX1_takeIn_23 (by decide) ?_
      exact kret_i F hI dX1_takeIn_24 (⟨by simp [x_takeIn, ← hu, c20], by simp [x_takeIn, ← hu, c20]⟩)
  refine lv_aload_n hx hb dX1_takeIn_0 rfl (lv_at hl 1 rfl) ?_
  refine lv_iload_n hx hb dX1_takeIn_1 rfl (lv_at hl 2 rfl) ?_
  refine lv_iload hx hb dX1_takeIn_2 (lv_at hl 4 rfl) ?_
  refine kcallV (rest := []) F hA hI (xc_add l _ a pq (nI z) ha) kgX1_164 (x_crec F hI ha) hl.1 rfl rfl (Nat.le_of_ble_eq_true rfl) dX1_takeIn_4 ⟨Nat.le_of_ble_eq_true rfl, Nat.le_of_ble_eq_true rfl⟩ ⟨Nat.le_of_ble_eq_true rfl, Nat.le_of_ble_eq_true rfl⟩ (fun vq uq H locs hp hI => ?_)
  obtain ⟨rfl, hu⟩ := hp
  rw [hu] at hI
  clear hu
  refine kstk (b := []) rfl ?_
  have hI : kI D _ A s.heap (x_add st a pq (nI z)) H locs := hI
  generalize hS4 : x_add st a pq (nI z) = S4 at hI
  have ha : a ∈ S4.2.2.2.1 := by rw [← hS4]; exact ha
  refine lv_iload_n hx hb dX1_takeIn_7 rfl (lv_at hl 3 rfl) ?_
  refine lv_if_eq (tgt := 16) hx hb dX1_takeIn_8 (by decide) (fun c8 => ?_) (fun c8 => ?_)
  ·
    rw [bI_z] at c8
    exact h16 _ _ _ _ hI (by rw [x_tk, hS4, x_last, if_neg (by rw [c8]; decide)]) hl
  ·
    rw [bI_z] at c8
    refine lv_aload_n hx hb dX1_takeIn_11 rfl (lv_at hl 1 rfl) ?_
    refine lv_iload_n hx hb dX1_takeIn_12 rfl (lv_at hl 2 rfl) ?_
    refine x_cput (ty := .int) F hI ha 6 (by decide) rfl flX1_118 (by decide +kernel) rfl rfl rfl dX1_takeIn_13 (fun H locs hI => ?_)
    exact h16 _ _ _ _ hI (by rw [x_tk, hS4, x_last, if_pos (by simpa using c8)]) hl
theorem xc_hearW (st : XS) (a pq : Nat) (il : Bool) (z n e' : Nat) (hp : pq < 8) (hn : n < 100) (he : e' ≤ 20) (hw : x_okW st a n pq z) (h2 : st.1 2 2 = nI e') : kM l yX1_hearWaiting cX1_hearWaiting 5 (some .int) 6 131 0 0 D (xty K) (xw g K) [.ref (g 0), .ref a, .int (nI pq), .int (bI il), .int (nI z)] st (fun v u => v = some (.int (nI (x_hearW st a pq il z).1)) ∧ u = (x_hearW st a pq il z).2) := by
  obtain ⟨ha, h0, sh, zl, hs, h1, h5, hzl⟩ := hw
  refine kM_intro (by decide) (Nat.le_of_ble_eq_true rfl) ?_
  intro p e s m below meth c A ls F hA hI hl
  obtain ⟨hx, hb, hr, hml, hown, hts, hlk, hK, hnm⟩ := id F
  have hl : lv_has ls 5 [(0, .ref (g 0)), (1, .ref a), (2, .int (nI pq)), (3, .int (bI il)), (4, .int (nI z))] := hl
  refine lv_aload_n hx hb dX1_hearWaiting_0 rfl (lv_at hl 1 rfl) ?_
  refine lv_iload_n hx hb dX1_hearWaiting_1 rfl (lv_at hl 2 rfl) ?_
  refine kcallV (rest := []) F hA hI (xc_has l _ a pq ha) kgX1_156 (x_crec F hI ha) hl.1 rfl rfl (Nat.le_of_ble_eq_true rfl) dX1_hearWaiting_2 ⟨Nat.le_of_ble_eq_true rfl, Nat.le_of_ble_eq_true rfl⟩ ⟨Nat.le_of_ble_eq_true rfl, Nat.le_of_ble_eq_true rfl⟩ (fun vq uq H locs hp hI => ?_)
  obtain ⟨rfl, hu⟩ := hp
  rw [hu] at hI
  clear hu
  refine kstk (b := .int _ :: []) rfl ?_
  refine lv_if_eq (tgt := 15) hx hb dX1_hearWaiting_5 (by decide) (fun c5 => ?_) (fun c5 => ?_)
  ·
    rw [bI_z] at c5
    refine lv_aload_n hx hb dX1_hearWaiting_15 rfl (lv_at hl 1 rfl) ?_
    refine lv_iload_n hx hb dX1_hearWaiting_16 rfl (lv_at hl 2 rfl) ?_
    refine lv_iload_n hx hb dX1_hearWaiting_17 rfl (lv_at hl 3 rfl) ?_
    refine kcallV (rest := []) F hA hI (xc_contr l _ a pq il ha) kgX1_160 (x_crec F hI ha) hl.1 rfl rfl (Nat.le_of_ble_eq_true rfl) dX1_hearWaiting_18 ⟨Nat.le_of_ble_eq_true rfl, Nat.le_of_ble_eq_true rfl⟩ ⟨Nat.le_of_ble_eq_true rfl, Nat.le_of_ble_eq_true rfl⟩ (fun vq uq H locs hp hI => ?_)
    obtain ⟨rfl, hu⟩ := hp
    rw [hu] at hI
    clear hu
    refine kstk (b := .int _ :: []) rfl ?_
    refine lv_if_eq (tgt := 32) hx hb dX1_hearWaiting_21 (by decide) (fun c21 => ?_) (fun c21 => ?_)
    ·
      rw [bI_z] at c21
      refine lv_aload_n hx hb dX1_hearWaiting_32 rfl (lv_at hl 0 rfl) ?_
      refine lv_aload_n hx hb dX1_hearWaiting_33 rfl (lv_at hl 1 rfl) ?_
      refine lv_iload_n hx hb dX1_hearWaiting_34 rfl (lv_at hl 2 rfl) ?_
      refine lv_iload_n hx hb dX1_hearWaiting_35 rfl (lv_at hl 3 rfl) ?_
      refine lv_iload hx hb dX1_hearWaiting_36 (lv_at hl 4 rfl) ?_
      refine kcallV (rest := []) F hA hI (xc_takeIn l _ a pq il z n sh zl e' ha hp hn hs (hzl c5) he h0 h1 h5 h2) kgX1_99 (x_rec F hI) hl.1 rfl rfl (Nat.le_of_ble_eq_true rfl) dX1_hearWaiting_38 ⟨Nat.le_of_ble_eq_true rfl, Nat.le_of_ble_eq_true rfl⟩ ⟨Nat.le_of_ble_eq_true rfl, Nat.le_of_ble_eq_true rfl⟩ (fun vq uq H locs hp hI => ?_)
      obtain ⟨rfl, hu⟩ := hp
      rw [hu] at hI
      clear hu
      refine kstk (b := .int _ :: []) rfl ?_
      exact kret_i F hI dX1_hearWaiting_41 (⟨by simp [x_hearW, c5, c21], by simp [x_hearW, c5, c21]⟩)
    ·
      rw [bI_z] at c21
      refine lv_aload_n hx hb dX1_hearWaiting_24 rfl (lv_at hl 0 rfl) ?_
      refine lv_bipush (v := nI 6) hx hb dX1_hearWaiting_25 (by decide) ?_
      refine lv_iconst (v := nI 4) hx hb dX1_hearWaiting_27 (by decide) ?_
      refine kcallV (rest := []) F hA hI (xc_counted l _ 6 (nI 4) (by decide)) kgX1_80 (x_rec F hI) hl.1 rfl rfl (Nat.le_of_ble_eq_true rfl) dX1_hearWaiting_28 ⟨Nat.le_of_ble_eq_true rfl, Nat.le_of_ble_eq_true rfl⟩ ⟨Nat.le_of_ble_eq_true rfl, Nat.le_of_ble_eq_true rfl⟩ (fun vq uq H locs hp hI => ?_)
      obtain ⟨rfl, hu⟩ := hp
      rw [hu] at hI
      clear hu
      refine kstk (b := .int _ :: []) rfl ?_
      exact kret_i F hI dX1_hearWaiting_31 (⟨by simp at c21; simp [x_hearW, c5, c21], by simp at c21; simp [x_hearW, c5, c21]⟩)
  ·
    rw [bI_z] at c5
    refine lv_aload_n hx hb dX1_hearWaiting_8 rfl (lv_at hl 0 rfl) ?_
    refine lv_iconst (v := nI 5) hx hb dX1_hearWaiting_9 (by decide) ?_
    refine lv_iconst (v := nI 3) hx hb dX1_hearWaiting_10 (by decide) ?_
    refine kcallV (rest := []) F hA hI (xc_counted l _ 5 (nI 3) (by decide)) kgX1_80 (x_rec F hI) hl.1 rfl rfl (Nat.le_of_ble_eq_true rfl) dX1_hearWaiting_11 ⟨Nat.le_of_ble_eq_true rfl, Nat.le_of_ble_eq_true rfl⟩ ⟨Nat.le_of_ble_eq_true rfl, Nat.le_of_ble_eq_true rfl⟩ (fun vq uq H locs hp hI => ?_)
    obtain ⟨rfl, hu⟩ := hp
    rw [hu] at hI
    clear hu
    refine kstk (b := .int _ :: []) rfl ?_
    exact kret_i F hI dX1_hearWaiting_14 (⟨by simp at c5; simp [x_hearW, c5], by simp at c5; simp [x_hearW, c5]⟩)
theorem xc_recall (st : XS) (n : Nat) (hn : n < 100) (hd : ∀ a, st.2.1 1 n = some a → a ∈ st.2.2.2.1) : kM l yX1_recall cX1_recall 3 (some (.object "CallKeepers$Call")) 0 0 0 0 D (xty K) (xw g K) [.ref (g 0), .int (nI n)] st (fun v u => v = some (va_rf (x_recall st n)) ∧ u = st) := by
  refine kM_intro (by decide) (Nat.le_of_ble_eq_true rfl) ?_
  intro p e s m below meth c A ls F hA hI hl
  obtain ⟨hx, hb, hr, hml, hown, hts, hlk, hK, hnm⟩ := id F
  have hl : lv_has ls 3 [(0, .ref (g 0)), (1, .int (nI n))] := hl
  rcases ho : st.2.1 1 n with _ | a
  · have hl := hl
    refine lv_aload_n hx hb dX1_recall_0 rfl (lv_at hl 0 rfl) ?_
    refine x_get F hI 6 (by decide) rfl flX1_42 dX1_recall_1 ?_
    refine lv_iload_n hx hb dX1_recall_4 rfl (lv_at hl 1 rfl) ?_
    refine x_rld F hI 1 (show n < 100 by omega) rfl dX1_recall_5 ?_
    refine kstk (b := .null :: _) (by rw [ho]; rfl) ?_
    refine lv_astore_nN (lv' := [(2, .null), (0, .ref _), (1, .int _)]) hx hb dX1_recall_6 rfl hl (by decide) rfl (fun ls hl => ?_)
    refine lv_aload_nN hx hb dX1_recall_7 rfl (lv_at hl 0 rfl) ?_
    refine lv_ifnullN (tgt := 34) hx hb dX1_recall_8 (by decide) ?_
    refine lv_null hx hb dX1_recall_34 ?_
    exact kret_q (r := none) F hI dX1_recall_35 (⟨by simp [x_recall, ho], rfl⟩)
  · have ha := hd a ho
    refine lv_aload_n hx hb dX1_recall_0 rfl (lv_at hl 0 rfl) ?_
    refine x_get F hI 6 (by decide) rfl flX1_42 dX1_recall_1 ?_
    refine lv_iload_n hx hb dX1_recall_4 rfl (lv_at hl 1 rfl) ?_
    refine x_rld F hI 1 (show n < 100 by omega) rfl dX1_recall_5 ?_
    refine kstk (b := .ref a :: _) (by rw [ho]; rfl) ?_
    refine lv_astore_n (lv' := [(2, .ref _), (0, .ref _), (1, .int _)]) hx hb dX1_recall_6 rfl hl (by decide) rfl (fun ls hl => ?_)
    refine lv_aload_n hx hb dX1_recall_7 rfl (lv_at hl 0 rfl) ?_
    refine lv_ifnull hx hb dX1_recall_8 ?_
    refine lv_aload_n hx hb dX1_recall_11 rfl (lv_at hl 0 rfl) ?_
    refine x_cget F hI ha 11 (by decide) rfl flX1_146 dX1_recall_12 ?_
    refine lv_if_ne (tgt := 34) hx hb dX1_recall_15 (by decide) (fun c15 => ?_) (fun c15 => ?_)
    ·
      refine lv_null hx hb dX1_recall_34 ?_
      exact kret_q (r := none) F hI dX1_recall_35 (⟨by simp [x_recall, ho, c15], rfl⟩)
    ·
      refine lv_aload_n hx hb dX1_recall_18 rfl (lv_at hl 1 rfl) ?_
      refine x_get F hI 2 (by decide) rfl flX1_25 dX1_recall_19 ?_
      refine lv_iconst (v := nI 0) hx hb dX1_recall_22 (by decide) ?_
      refine x_ald F hI 2 (show 0 < 13 by omega) rfl dX1_recall_23 ?_
      refine lv_aload_n hx hb dX1_recall_24 rfl (lv_at hl 0 rfl) ?_
      refine x_cget F hI ha 7 (by decide) rfl flX1_140 dX1_recall_25 ?_
      refine lv_isub hx hb dX1_recall_28 ?_
      refine lv_bipush (v := nI 50) hx hb dX1_recall_29 (by decide) ?_
      refine lv_icmp_lt (tgt := 36) hx hb dX1_recall_31 (by decide) (fun c31 => ?_) (fun c31 => ?_)
      ·
        refine lv_aload_n hx hb dX1_recall_36 rfl (lv_at hl 0 rfl) ?_
        exact kret_q (r := (some a)) F hI dX1_recall_37 (⟨by simp [x_recall, ho, c15, c31], rfl⟩)
      ·
        refine lv_null hx hb dX1_recall_34 ?_
        exact kret_q (r := none) F hI dX1_recall_35 (⟨by simp [x_recall, ho, c31], rfl⟩)
theorem xc_hearD (st : XS) (a pq z : Nat) (hp : pq < 8) (ha : a ∈ st.2.2.2.1) : kM l yX1_hearDecided cX1_hearDecided 5 (some .int) 1 22 0 0 D (xty K) (xw g K) [.ref (g 0), .ref a, .int (nI pq), .int (nI z)] st (fun v u => v = some (.int (nI (x_hearD st a pq z).1)) ∧ u = (x_hearD st a pq z).2) := by
  refine kM_intro (by decide) (Nat.le_of_ble_eq_true rfl) ?_
  intro p e s m below meth c A ls F hA hI hl
  obtain ⟨hx, hb, hr, hml, hown, hts, hlk, hK, hnm⟩ := id F
  have hl : lv_has ls 5 [(0, .ref (g 0)), (1, .ref a), (2, .int (nI pq)), (3, .int (nI z))] := hl
  refine lv_aload_n hx hb dX1_hearDecided_0 rfl (lv_at hl 0 rfl) ?_
  refine x_get F hI 2 (by decide) rfl flX1_25 dX1_hearDecided_1 ?_
  refine lv_iconst (v := nI 0) hx hb dX1_hearDecided_4 (by decide) ?_
  refine x_ald F hI 2 (show 0 < 13 by omega) rfl dX1_hearDecided_5 ?_
  refine lv_aload_n hx hb dX1_hearDecided_6 rfl (lv_at hl 1 rfl) ?_
  refine x_cget F hI ha 7 (by decide) rfl flX1_140 dX1_hearDecided_7 ?_
  refine lv_isub hx hb dX1_hearDecided_10 ?_
  refine lv_aload_n hx hb dX1_hearDecided_11 rfl (lv_at hl 0 rfl) ?_
  refine x_get F hI 1 (by decide) rfl flX1_22 dX1_hearDecided_12 ?_
  refine lv_iconst (v := nI 5) hx hb dX1_hearDecided_15 (by decide) ?_
  refine x_ald F hI 1 (show 5 < 6 by omega) rfl dX1_hearDecided_16 ?_
  refine lv_icmp_gt (tgt := 24) hx hb dX1_hearDecided_17 (by decide) (fun c17 => ?_) (fun c17 => ?_)
  ·
    refine lv_iconst (v := nI 0) hx hb dX1_hearDecided_24 (by decide) ?_
    refine lv_istore (lv' := [(4, .int _), (0, .ref _), (1, .ref _), (2, .int _), (3, .int _)]) hx hb dX1_hearDecided_25 hl (by decide) rfl (fun ls hl => ?_)
    refine lv_aload_n hx hb dX1_hearDecided_27 rfl (lv_at hl 2 rfl) ?_
    refine x_cget F hI ha 10 (by decide) rfl flX1_124 dX1_hearDecided_28 ?_
    refine lv_if_eq (tgt := 47) hx hb dX1_hearDecided_31 (by decide) (fun c31 => ?_) (fun c31 => ?_)
    ·
      refine lv_aload_n hx hb dX1_hearDecided_47 rfl (lv_at hl 1 rfl) ?_
      refine lv_bipush (v := nI 8) hx hb dX1_hearDecided_48 (by decide) ?_
      refine lv_bipush (v := nI 6) hx hb dX1_hearDecided_50 (by decide) ?_
      refine kcallV (rest := []) F hA hI (xc_counted l _ 8 (nI 6) (by decide)) kgX1_80 (x_rec F hI) hl.1 rfl rfl (Nat.le_of_ble_eq_true rfl) dX1_hearDecided_52 ⟨Nat.le_of_ble_eq_true rfl, Nat.le_of_ble_eq_true rfl⟩ ⟨Nat.le_of_ble_eq_true rfl, Nat.le_of_ble_eq_true rfl⟩ (fun vq uq H locs hp hI => ?_)
      obtain ⟨rfl, hu⟩ := hp
      rw [hu] at hI
      clear hu
      refine kstk (b := .int _ :: []) rfl ?_
      exact kret_i F hI dX1_hearDecided_55 (⟨by simp [x_hearD, c31], by simp [x_hearD, c31]⟩)
    ·
      refine lv_iload hx hb dX1_hearDecided_34 (lv_at hl 0 rfl) ?_
      refine lv_if_eq (tgt := 47) hx hb dX1_hearDecided_36 (by decide) (fun c36 => ?_) (fun c36 => absurd c36 ((fun q => q rfl)))
      refine lv_aload_n hx hb dX1_hearDecided_47 rfl (lv_at hl 1 rfl) ?_
      refine lv_bipush (v := nI 8) hx hb dX1_hearDecided_48 (by decide) ?_
      refine lv_bipush (v := nI 6) hx hb dX1_hearDecided_50 (by decide) ?_
      refine kcallV (rest := []) F hA hI (xc_counted l _ 8 (nI 6) (by decide)) kgX1_80 (x_rec F hI) hl.1 rfl rfl (Nat.le_of_ble_eq_true rfl) dX1_hearDecided_52 ⟨Nat.le_of_ble_eq_true rfl, Nat.le_of_ble_eq_true rfl⟩ ⟨Nat.le_of_ble_eq_true rfl, Nat.le_of_ble_eq_true rfl⟩ (fun vq uq H locs hp hI => ?_)
      obtain ⟨rfl, hu⟩ := hp
      rw [hu] at hI
      clear hu
      refine kstk (b := .int _ :: []) rfl ?_
      exact kret_i F hI dX1_hearDecided_55 (⟨by simp [x_hearD, c17], by simp [x_hearD, c17]⟩)
  ·
    refine lv_iconst (v := nI 1) hx hb dX1_hearDecided_20 (by decide) ?_
    refine lv_goto (tgt := 25) hx hb dX1_hearDecided_21 (by decide) ?_
    refine lv_istore (lv' := [(4, .int _), (0, .ref _), (1, .ref _), (2, .int _), (3, .int _)]) hx hb dX1_hearDecided_25 hl (by decide) rfl (fun ls hl => ?_)
    refine lv_aload_n hx hb dX1_hearDecided_27 rfl (lv_at hl 2 rfl) ?_
    refine x_cget F hI ha 10 (by decide) rfl flX1_124 dX1_hearDecided_28 ?_
    refine lv_if_eq (tgt := 47) hx hb dX1_hearDecided_31 (by decide) (fun c31 => ?_) (fun c31 => ?_)
    ·
      refine lv_aload_n hx hb dX1_hearDecided_47 rfl (lv_at hl 1 rfl) ?_
      refine lv_bipush (v := nI 8) hx hb dX1_hearDecided_48 (by decide) ?_
      refine lv_bipush (v := nI 6) hx hb dX1_hearDecided_50 (by decide) ?_
      refine kcallV (rest := []) F hA hI (xc_counted l _ 8 (nI 6) (by decide)) kgX1_80 (x_rec F hI) hl.1 rfl rfl (Nat.le_of_ble_eq_true rfl) dX1_hearDecided_52 ⟨Nat.le_of_ble_eq_true rfl, Nat.le_of_ble_eq_true rfl⟩ ⟨Nat.le_of_ble_eq_true rfl, Nat.le_of_ble_eq_true rfl⟩ (fun vq uq H locs hp hI => ?_)
      obtain ⟨rfl, hu⟩ := hp
      rw [hu] at hI
      clear hu
      refine kstk (b := .int _ :: []) rfl ?_
      exact kret_i F hI dX1_hearDecided_55 (⟨by simp [x_hearD, c31], by simp [x_hearD, c31]⟩)
    ·
      refine lv_iload hx hb dX1_hearDecided_34 (lv_at hl 0 rfl) ?_
      refine lv_if_eq (tgt := 47) hx hb dX1_hearDecided_36 (by decide) (fun c36 => absurd c36 ((by decide))) (fun c36 => ?_)
      refine lv_aload_n hx hb dX1_hearDecided_39 rfl (lv_at hl 2 rfl) ?_
      refine lv_iload_n hx hb dX1_hearDecided_40 rfl (lv_at hl 3 rfl) ?_
      refine kcallV (rest := []) F hA hI (xc_has l _ a pq ha) kgX1_156 (x_crec F hI ha) hl.1 rfl rfl (Nat.le_of_ble_eq_true rfl) dX1_hearDecided_41 ⟨Nat.le_of_ble_eq_true rfl, Nat.le_of_ble_eq_true rfl⟩ ⟨Nat.le_of_ble_eq_true rfl, Nat.le_of_ble_eq_true rfl⟩ (fun vq uq H locs hp hI => ?_)
      obtain ⟨rfl, hu⟩ := hp
      rw [hu] at hI
      clear hu
      refine kstk (b := .int _ :: []) rfl ?_
      refine lv_if_eq (tgt := 56) hx hb dX1_hearDecided_44 (by decide) (fun c44 => ?_) (fun c44 => ?_)
      ·
        rw [bI_z] at c44
        refine lv_aload_n hx hb dX1_hearDecided_56 rfl (lv_at hl 2 rfl) ?_
        refine lv_iload_n hx hb dX1_hearDecided_57 rfl (lv_at hl 3 rfl) ?_
        refine lv_iload_n hx hb dX1_hearDecided_58 rfl (lv_at hl 4 rfl) ?_
        refine kcallV (rest := []) F hA hI (xc_add l _ a pq (nI z) ha) kgX1_164 (x_crec F hI ha) hl.1 rfl rfl (Nat.le_of_ble_eq_true rfl) dX1_hearDecided_59 ⟨Nat.le_of_ble_eq_true rfl, Nat.le_of_ble_eq_true rfl⟩ ⟨Nat.le_of_ble_eq_true rfl, Nat.le_of_ble_eq_true rfl⟩ (fun vq uq H locs hp hI => ?_)
        obtain ⟨rfl, hu⟩ := hp
        rw [hu] at hI
        clear hu
        refine kstk (b := []) rfl ?_
        refine lv_aload_n hx hb dX1_hearDecided_62 rfl (lv_at hl 1 rfl) ?_
        refine lv_bipush (v := nI 7) hx hb dX1_hearDecided_63 (by decide) ?_
        refine lv_iconst (v := nI 5) hx hb dX1_hearDecided_65 (by decide) ?_
        refine kcallV (rest := []) F hA hI (xc_counted l _ 7 (nI 5) (by decide)) kgX1_80 (x_rec F hI) hl.1 rfl rfl (Nat.le_of_ble_eq_true rfl) dX1_hearDecided_66 ⟨Nat.le_of_ble_eq_true rfl, Nat.le_of_ble_eq_true rfl⟩ ⟨Nat.le_of_ble_eq_true rfl, Nat.le_of_ble_eq_true rfl⟩ (fun vq uq H locs hp hI => ?_)
        obtain ⟨rfl, hu⟩ := hp
        rw [hu] at hI
        clear hu
        refine kstk (b := .int _ :: []) rfl ?_
        exact kret_i F hI dX1_hearDecided_69 (⟨by simp [x_hearD, c31, c17, c44], by simp [x_hearD, c31, c17, c44]⟩)
      ·
        rw [bI_z] at c44
        refine lv_aload_n hx hb dX1_hearDecided_47 rfl (lv_at hl 1 rfl) ?_
        refine lv_bipush (v := nI 8) hx hb dX1_hearDecided_48 (by decide) ?_
        refine lv_bipush (v := nI 6) hx hb dX1_hearDecided_50 (by decide) ?_
        refine kcallV (rest := []) F hA hI (xc_counted l _ 8 (nI 6) (by decide)) kgX1_80 (x_rec F hI) hl.1 rfl rfl (Nat.le_of_ble_eq_true rfl) dX1_hearDecided_52 ⟨Nat.le_of_ble_eq_true rfl, Nat.le_of_ble_eq_true rfl⟩ ⟨Nat.le_of_ble_eq_true rfl, Nat.le_of_ble_eq_true rfl⟩ (fun vq uq H locs hp hI => ?_)
        obtain ⟨rfl, hu⟩ := hp
        rw [hu] at hI
        clear hu
        refine kstk (b := .int _ :: []) rfl ?_
        exact kret_i F hI dX1_hearDecided_55 (⟨by simp at c44; simp [x_hearD, c44], by simp at c44; simp [x_hearD, c44]⟩)
theorem xc_piece_bad (st : XS) (n pq sh z : Int32) (il : Bool) (h : decide (¬ n < 0 ∧ ¬ nI 100 ≤ n) = false ∨ decide (¬ pq < 0 ∧ ¬ nI 8 ≤ pq) = false ∨ decide (¬ sh < 0 ∧ ¬ nI 5 ≤ sh) = false ∨ inR z (nI 1) (nI 1000) = false) : kM l yX1_piece cX1_piece 10 (some .int) 7 155 1 12 D (xty K) (xw g K) [.ref (g 0), .int n, .int pq, .int (bI il), .int sh, .int z] st (fun v u => v = some (.int (-1)) ∧ u = st) := by
  refine kM_intro (by decide) (Nat.le_of_ble_eq_true rfl) ?_
  intro p e s m below meth c A ls F hA hI hl
  obtain ⟨hx, hb, hr, hml, hown, hts, hlk, hK, hnm⟩ := id F
  have hl : lv_has ls 10 [(0, .ref (g 0)), (1, .int n), (2, .int pq), (3, .int (bI il)), (4, .int sh), (5, .int z)] := hl
  refine lv_iload_n hx hb dX1_piece_0 rfl (lv_at hl 1 rfl) ?_
  refine lv_bipush (v := nI 100) hx hb dX1_piece_1 (by decide) ?_
  refine kcallS (rest := []) F hA hI (xc_isBelow l _ _ _) kgX1_52 hl.1 rfl rfl (Nat.le_of_ble_eq_true rfl) dX1_piece_3 ⟨Nat.le_of_ble_eq_true rfl, Nat.le_of_ble_eq_true rfl⟩ ⟨Nat.le_of_ble_eq_true rfl, Nat.le_of_ble_eq_true rfl⟩ (fun vq uq H locs hp hI => ?_)
  obtain ⟨rfl, hu⟩ := hp
  rw [hu] at hI
  clear hu
  refine kstk (b := .int _ :: []) rfl ?_
  refine lv_if_eq (tgt := 39) hx hb dX1_piece_6 (by decide) (fun c6 => ?_) (fun c6 => ?_)
  ·
    rw [bI_z] at c6
    refine lv_iconst (v := -1) hx hb dX1_piece_39 (by decide) ?_
    refine W.widen (k := 1) (n := 12) (by omega) (by omega) ?_
    exact kret_i F hI dX1_piece_40 (⟨rfl, rfl⟩)
  ·
    rw [bI_z] at c6
    refine lv_iload_n hx hb dX1_piece_9 rfl (lv_at hl 2 rfl) ?_
    refine lv_bipush (v := nI 8) hx hb dX1_piece_10 (by decide) ?_
    refine kcallS (rest := []) F hA hI (xc_isBelow l _ _ _) kgX1_52 hl.1 rfl rfl (Nat.le_of_ble_eq_true rfl) dX1_piece_12 ⟨Nat.le_of_ble_eq_true rfl, Nat.le_of_ble_eq_true rfl⟩ ⟨Nat.le_of_ble_eq_true rfl, Nat.le_of_ble_eq_true rfl⟩ (fun vq uq H locs hp hI => ?_)
    obtain ⟨rfl, hu⟩ := hp
    rw [hu] at hI
    clear hu
    refine kstk (b := .int _ :: []) rfl ?_
    refine lv_if_eq (tgt := 39) hx hb dX1_piece_15 (by decide) (fun c15 => ?_) (fun c15 => ?_)
    ·
      rw [bI_z] at c15
      refine lv_iconst (v := -1) hx hb dX1_piece_39 (by decide) ?_
      refine W.widen (k := 1) (n := 12) (by omega) (by omega) ?_
      exact kret_i F hI dX1_piece_40 (⟨rfl, rfl⟩)
    ·
      rw [bI_z] at c15
      refine lv_iload hx hb dX1_piece_18 (lv_at hl 4 rfl) ?_
      refine lv_iconst (v := nI 5) hx hb dX1_piece_20 (by decide) ?_
      refine kcallS (rest := []) F hA hI (xc_isBelow l _ _ _) kgX1_52 hl.1 rfl rfl (Nat.le_of_ble_eq_true rfl) dX1_piece_21 ⟨Nat.le_of_ble_eq_true rfl, Nat.le_of_ble_eq_true rfl⟩ ⟨Nat.le_of_ble_eq_true rfl, Nat.le_of_ble_eq_true rfl⟩ (fun vq uq H locs hp hI => ?_)
      obtain ⟨rfl, hu⟩ := hp
      rw [hu] at hI
      clear hu
      refine kstk (b := .int _ :: []) rfl ?_
      refine lv_if_eq (tgt := 39) hx hb dX1_piece_24 (by decide) (fun c24 => ?_) (fun c24 => ?_)
      ·
        rw [bI_z] at c24
        refine lv_iconst (v := -1) hx hb dX1_piece_39 (by decide) ?_
        refine W.widen (k := 1) (n := 12) (by omega) (by omega) ?_
        exact kret_i F hI dX1_piece_40 (⟨rfl, rfl⟩)
      ·
        rw [bI_z] at c24
        refine lv_iload hx hb dX1_piece_27 (lv_at hl 5 rfl) ?_
        refine lv_iconst (v := nI 1) hx hb dX1_piece_29 (by decide) ?_
        refine lv_sipush (v := nI 1000) hx hb dX1_piece_30 (by decide) ?_
        refine kcallS (rest := []) F hA hI (xc_isWithin l _ _ _ _) kgX1_73 hl.1 rfl rfl (Nat.le_of_ble_eq_true rfl) dX1_piece_33 ⟨Nat.le_of_ble_eq_true rfl, Nat.le_of_ble_eq_true rfl⟩ ⟨Nat.le_of_ble_eq_true rfl, Nat.le_of_ble_eq_true rfl⟩ (fun vq uq H locs hp hI => ?_)
        obtain ⟨rfl, hu⟩ := hp
        rw [hu] at hI
        clear hu
        refine kstk (b := .int _ :: []) rfl ?_
        refine lv_if_ne (tgt := 41) hx hb dX1_piece_36 (by decide) (fun c36 => absurd c36 ((fun q => q (bI_z.mpr ((h.resolve_left c6).resolve_left c15 |>.resolve_left c24))))) (fun c36 => ?_)
        refine lv_iconst (v := -1) hx hb dX1_piece_39 (by decide) ?_
        refine W.widen (k := 1) (n := 12) (by omega) (by omega) ?_
        exact kret_i F hI dX1_piece_40 (⟨rfl, rfl⟩)
theorem xc_piece (st : XS) (n pq : Nat) (il : Bool) (sh z e' : Nat) (hn : n < 100) (hp : pq < 8) (hs : sh < 5) (hz1 : 1 ≤ z) (hz : z ≤ 1000) (he : e' ≤ 20) (h2 : st.1 2 2 = nI e') (hW : ∀ a, st.2.1 0 n = some a → x_okW st a n pq z) (hD : ∀ a, st.2.1 1 n = some a → a ∈ st.2.2.2.1) : kM l yX1_piece cX1_piece 10 (some .int) 7 155 1 12 D (xty K) (xw g K) [.ref (g 0), .int (nI n), .int (nI pq), .int (bI il), .int (nI sh), .int (nI z)] st (fun v u => ∃ q, q ∉ st.2.2.2.1 ∧ v = some (.int (nI (x_piece st q n pq il sh z).1)) ∧ u = (x_piece st q n pq il sh z).2) := by
  refine kM_intro (by decide) (Nat.le_of_ble_eq_true rfl) ?_
  intro p e s m below meth c A ls F hA hI hl
  obtain ⟨hx, hb, hr, hml, hown, hts, hlk, hK, hnm⟩ := id F
  have hl : lv_has ls 10 [(0, .ref (g 0)), (1, .int (nI n)), (2, .int (nI pq)), (3, .int (bI il)), (4, .int (nI sh)), (5, .int (nI z))] := hl
  have g1 := isB_t (show n < 100 by omega) (by decide)
  have g2 := isB_t (show pq < 8 by omega) (by decide)
  have g3 := isB_t (show sh < 5 by omega) (by decide)
  have g4 : inR (nI z) (nI 1) (nI 1000) = true := inR_in (by decide) (by omega) (by omega)
  obtain ⟨q0, hq0⟩ := fresh_ex st.2.2.2.1
  have h41 : ∀ (H : Heap) (locs : List Loc) (ls : Array Slot), kI D (xw g K) A s.heap st H locs → lv_has ls 10 [(0, .ref (g 0)), (1, .int (nI n)), (2, .int (nI pq)), (3, .int (bI il)), (4, .int (nI sh)), (5, .int (nI z))] → W p l e { frames := 7, cells := 1, slots := 12, locals := 155 } s m #[.ref (g 0), .int (nI n), .int (nI pq), .int (bI il), .int (nI sh), .int (nI z)] below meth c H locs 0 0 (MQ below (kQ D (xty K) (xw g K) (fun v u => ∃ q, q ∉ st.2.2.2.1 ∧ v = some (.int (nI (x_piece st q n pq il sh z).1)) ∧ u = (x_piece st q n pq il sh z).2) A) #[.ref (g 0), .int (nI n), .int (nI pq), .int (bI il), .int (nI sh), .int (nI z)] s 1 12 A) (F0 m 41 ls []) := by
    intro H locs ls hI hl
    by_cases hh : hm (x_up st) n = -9
    · have hl := hl
      refine lv_aload_n hx hb dX1_piece_41 rfl (lv_at hl 0 rfl) ?_
      refine lv_iload_n hx hb dX1_piece_42 rfl (lv_at hl 1 rfl) ?_
      refine kcallV (rest := []) F hA hI (xc_homeOf l _ n hn) kgX1_63 (x_rec F hI) hl.1 rfl rfl (Nat.le_of_ble_eq_true rfl) dX1_piece_43 ⟨Nat.le_of_ble_eq_true rfl, Nat.le_of_ble_eq_true rfl⟩ ⟨Nat.le_of_ble_eq_true rfl, Nat.le_of_ble_eq_true rfl⟩ (fun vq uq H locs hp hI => ?_)
      obtain ⟨rfl, hu⟩ := hp
      rw [hu] at hI
      clear hu
      refine kstk (b := .int _ :: []) rfl ?_
      refine lv_istore (lv' := [(6, .int _), (0, .ref _), (1, .int _), (2, .int _), (3, .int _), (4, .int _), (5, .int _)]) hx hb dX1_piece_46 hl (by decide) rfl (fun ls hl => ?_)
      refine lv_iload hx hb dX1_piece_48 (lv_at hl 0 rfl) ?_
      refine lv_bipush (v := -9) hx hb dX1_piece_50 (by decide) ?_
      refine lv_icmp_ne (tgt := 64) hx hb dX1_piece_52 (by decide) (fun c52 => absurd c52 ((fun q => q hh))) (fun c52 => ?_)
      refine lv_aload_n hx hb dX1_piece_55 rfl (lv_at hl 1 rfl) ?_
      refine lv_bipush (v := nI 9) hx hb dX1_piece_56 (by decide) ?_
      refine lv_bipush (v := nI 7) hx hb dX1_piece_58 (by decide) ?_
      refine kcallV (rest := []) F hA hI (xc_counted l _ 9 (nI 7) (by decide)) kgX1_80 (x_rec F hI) hl.1 rfl rfl (Nat.le_of_ble_eq_true rfl) dX1_piece_60 ⟨Nat.le_of_ble_eq_true rfl, Nat.le_of_ble_eq_true rfl⟩ ⟨Nat.le_of_ble_eq_true rfl, Nat.le_of_ble_eq_true rfl⟩ (fun vq uq H locs hp hI => ?_)
      obtain ⟨rfl, hu⟩ := hp
      rw [hu] at hI
      clear hu
      refine kstk (b := .int _ :: []) rfl ?_
      refine W.widen (k := 1) (n := 12) (by omega) (by omega) ?_
      exact kret_i F hI dX1_piece_63 (⟨q0, hq0, by simp [x_piece, hh], by simp [x_piece, hh]⟩)
    rcases hw : st.2.1 0 n with _ | a
    · rcases hr : x_recall st n with _ | a
      · by_cases h24 : st.1 2 1 < nI 24
        · have hl := hl
          refine lv_aload_n hx hb dX1_piece_41 rfl (lv_at hl 0 rfl) ?_
          refine lv_iload_n hx hb dX1_piece_42 rfl (lv_at hl 1 rfl) ?_
          refine kcallV (rest := []) F hA hI (xc_homeOf l _ n hn) kgX1_63 (x_rec F hI) hl.1 rfl rfl (Nat.le_of_ble_eq_true rfl) dX1_piece_43 ⟨Nat.le_of_ble_eq_true rfl, Nat.le_of_ble_eq_true rfl⟩ ⟨Nat.le_of_ble_eq_true rfl, Nat.le_of_ble_eq_true rfl⟩ (fun vq uq H locs hp hI => ?_)
          obtain ⟨rfl, hu⟩ := hp
          rw [hu] at hI
          clear hu
          refine kstk (b := .int _ :: []) rfl ?_
          refine lv_istore (lv' := [(6, .int _), (0, .ref _), (1, .int _), (2, .int _), (3, .int _), (4, .int _), (5, .int _)]) hx hb dX1_piece_46 hl (by decide) rfl (fun ls hl => ?_)
          refine lv_iload hx hb dX1_piece_48 (lv_at hl 0 rfl) ?_
          refine lv_bipush (v := -9) hx hb dX1_piece_50 (by decide) ?_
          refine lv_icmp_ne (tgt := 64) hx hb dX1_piece_52 (by decide) (fun c52 => ?_) (fun c52 => absurd c52 (hh))
          refine lv_aload_n hx hb dX1_piece_64 rfl (lv_at hl 1 rfl) ?_
          refine x_get F hI 5 (by decide) rfl flX1_38 dX1_piece_65 ?_
          refine lv_iload_n hx hb dX1_piece_68 rfl (lv_at hl 2 rfl) ?_
          refine x_rld F hI 0 (show n < 100 by omega) rfl dX1_piece_69 ?_
          refine kstk (b := .null :: _) (by rw [hw]; rfl) ?_
          refine lv_astoreN (lv' := [(7, .null), (6, .int _), (0, .ref _), (1, .int _), (2, .int _), (3, .int _), (4, .int _), (5, .int _)]) hx hb dX1_piece_70 hl (by decide) rfl (fun ls hl => ?_)
          refine lv_aloadN hx hb dX1_piece_72 (lv_at hl 0 rfl) ?_
          refine lv_ifnullN (tgt := 88) hx hb dX1_piece_74 (by decide) ?_
          refine lv_aload_n hx hb dX1_piece_88 rfl (lv_at hl 2 rfl) ?_
          refine lv_iload_n hx hb dX1_piece_89 rfl (lv_at hl 3 rfl) ?_
          refine kcallV (rest := []) F hA hI (xc_recall l _ n hn hD) kgX1_88 (x_rec F hI) hl.1 rfl rfl (Nat.le_of_ble_eq_true rfl) dX1_piece_90 ⟨Nat.le_of_ble_eq_true rfl, Nat.le_of_ble_eq_true rfl⟩ ⟨Nat.le_of_ble_eq_true rfl, Nat.le_of_ble_eq_true rfl⟩ (fun vq uq H locs hp hI => ?_)
          obtain ⟨rfl, hu⟩ := hp
          rw [hu] at hI
          clear hu
          refine kstk (b := .null :: []) (by rw [hr]; rfl) ?_
          refine lv_astoreN (lv' := [(8, .null), (7, .null), (6, .int _), (0, .ref _), (1, .int _), (2, .int _), (3, .int _), (4, .int _), (5, .int _)]) hx hb dX1_piece_93 hl (by decide) rfl (fun ls hl => ?_)
          refine lv_aloadN hx hb dX1_piece_95 (lv_at hl 0 rfl) ?_
          refine lv_ifnullN (tgt := 110) hx hb dX1_piece_97 (by decide) ?_
          refine lv_aload_n hx hb dX1_piece_110 rfl (lv_at hl 3 rfl) ?_
          refine x_get F hI 2 (by decide) rfl flX1_25 dX1_piece_111 ?_
          refine lv_iconst (v := nI 1) hx hb dX1_piece_114 (by decide) ?_
          refine x_ald F hI 2 (show 1 < 13 by omega) rfl dX1_piece_115 ?_
          refine lv_bipush (v := nI 24) hx hb dX1_piece_116 (by decide) ?_
          refine lv_icmp_lt (tgt := 130) hx hb dX1_piece_118 (by decide) (fun c118 => ?_) (fun c118 => absurd c118 ((fun q => q h24)))
          refine x_new F hA hI nwC nwI nwN (Nat.le_of_ble_eq_true rfl) (Nat.le_of_ble_eq_true rfl) dX1_piece_130 (fun q H hq hI => ?_)
          have hqm : q ∈ (xnew st q).2.2.2.1 := List.mem_append_right _ (List.mem_singleton.mpr rfl)
          refine lv_dup hx hb dX1_piece_133 rfl ?_
          refine lv_iload_n hx hb dX1_piece_134 rfl (lv_at hl 4 rfl) ?_
          refine lv_iload hx hb dX1_piece_135 (lv_at hl 7 rfl) ?_
          refine lv_iload hx hb dX1_piece_137 (lv_at hl 2 rfl) ?_
          refine lv_aload_n hx hb dX1_piece_139 rfl (lv_at hl 3 rfl) ?_
          refine x_get F hI 2 (by decide) rfl flX1_25 dX1_piece_140 ?_
          refine lv_iconst (v := nI 0) hx hb dX1_piece_143 (by decide) ?_
          refine x_ald F hI 2 (show 0 < 13 by omega) rfl dX1_piece_144 ?_
          refine kcallI (rest := [.ref _]) F hA hI (xc_init l _ q (nI n) (nI sh) (hm (x_up st) n) (st.1 2 0) hqm) kgX1_96 hl.1 rfl rfl (Nat.le_of_ble_eq_true rfl) dX1_piece_145 ⟨Nat.le_of_ble_eq_true rfl, Nat.le_of_ble_eq_true rfl⟩ ⟨Nat.le_of_ble_eq_true rfl, Nat.le_of_ble_eq_true rfl⟩ (fun vq uq H locs hp hI => ?_)
          obtain ⟨rfl, hu⟩ := hp
          rw [hu] at hI
          clear hu
          refine kstk (b := [.ref _]) rfl ?_
          have hI : kI D _ A s.heap (x_born (xnew st q) q (nI n) (nI sh) (hm (x_up st) n) (st.1 2 0)) H locs := hI
          generalize hS145 : x_born (xnew st q) q (nI n) (nI sh) (hm (x_up st) n) (st.1 2 0) = S145 at hI
          have hqm : q ∈ S145.2.2.2.1 := by rw [← hS145]; exact hqm
          have q0' : cf S145 q 0 = nI n := by rw [← hS145, x_born, cf_ne (by decide), cf_ne (by decide), cf_ne (by decide), cf_eq]
          have q1' : cf S145 q 1 = nI sh := by rw [← hS145, x_born, cf_ne (by decide), cf_ne (by decide), cf_eq]
          have q5' : cf S145 q 5 = nI 0 := by rw [← hS145, x_born, cf_ne (by decide), cf_ne (by decide), cf_ne (by decide), cf_ne (by decide), cf_ne (by decide), cf_ne (by decide), cf_ne (by decide), cf_ne (by decide), cf_ne (by decide), cf_ne (by decide), cf_eq]
          have q2' : S145.1 2 2 = nI e' := by rw [← hS145]; exact h2
          refine lv_astore (lv' := [(9, .ref _), (8, .null), (7, .null), (6, .int _), (0, .ref _), (1, .int _), (2, .int _), (3, .int _), (4, .int _), (5, .int _)]) hx hb dX1_piece_148 hl (by decide) rfl (fun ls hl => ?_)
          refine lv_aload_n hx hb dX1_piece_150 rfl (lv_at hl 4 rfl) ?_
          refine x_get F hI 5 (by decide) rfl flX1_38 dX1_piece_151 ?_
          refine lv_iload_n hx hb dX1_piece_154 rfl (lv_at hl 5 rfl) ?_
          refine lv_aload hx hb dX1_piece_155 (lv_at hl 0 rfl) ?_
          refine x_rst F hI hqm 0 (show n < 100 by omega) rfl dX1_piece_157 (fun H locs hI => ?_)
          have hI : kI D _ A s.heap (xrf S145 0 n (some q)) H locs := hI
          generalize hS157 : xrf S145 0 n (some q) = S157 at hI
          refine lv_aload_n hx hb dX1_piece_158 rfl (lv_at hl 4 rfl) ?_
          refine x_get F hI 2 (by decide) rfl flX1_25 dX1_piece_159 ?_
          refine lv_iconst (v := nI 1) hx hb dX1_piece_162 (by decide) ?_
          refine lv_dup2_11 hx hb dX1_piece_163 rfl rfl ?_
          refine x_ald F hI 2 (show 1 < 13 by omega) rfl dX1_piece_164 ?_
          refine lv_iconst (v := nI 1) hx hb dX1_piece_165 (by decide) ?_
          refine lv_iadd hx hb dX1_piece_166 ?_
          refine x_ast F hI 2 (show 1 < 13 by omega) rfl dX1_piece_167 (fun H locs hI => ?_)
          have hI : kI D _ A s.heap (xinc S157 2 1) H locs := hI
          generalize hS167 : xinc S157 2 1 = S167 at hI
          refine lv_aload_n hx hb dX1_piece_168 rfl (lv_at hl 4 rfl) ?_
          refine lv_aload hx hb dX1_piece_169 (lv_at hl 0 rfl) ?_
          refine lv_iload_n hx hb dX1_piece_171 rfl (lv_at hl 6 rfl) ?_
          refine lv_iload_n hx hb dX1_piece_172 rfl (lv_at hl 7 rfl) ?_
          refine lv_iload hx hb dX1_piece_173 (lv_at hl 9 rfl) ?_
          have e1 : S167.2 = (xrf S145 0 n (some q)).2 := by rw [← hS167, ← hS157]; rfl
          have hqm7 : q ∈ S167.2.2.2.1 := by rw [e1]; exact hqm
          have r0 : cf S167 q 0 = nI n := by unfold cf; rw [e1]; exact q0'
          have r1 : cf S167 q 1 = nI sh := by unfold cf; rw [e1]; exact q1'
          have r5 : cf S167 q 5 = nI 0 := by unfold cf; rw [e1]; exact q5'
          have r2 : S167.1 2 2 = nI e' := by rw [← hS167, xinc, xset_a, pk_un (by decide), ← hS157]; exact q2'
          have ef : x_first st q n sh = S167 := by rw [x_first, hS145, hS157, hS167]
          refine kcallV (rest := []) F hA hI (xc_takeIn l _ q pq il z n sh 0 e' hqm7 hp hn hs (by omega) he r0 r1 r5 r2) kgX1_99 (x_rec F hI) hl.1 rfl rfl (Nat.le_of_ble_eq_true rfl) dX1_piece_175 ⟨Nat.le_of_ble_eq_true rfl, Nat.le_of_ble_eq_true rfl⟩ ⟨Nat.le_of_ble_eq_true rfl, Nat.le_of_ble_eq_true rfl⟩ (fun vq uq H locs hp hI => ?_)
          obtain ⟨rfl, hu⟩ := hp
          rw [hu] at hI
          clear hu
          refine kstk (b := .int _ :: []) rfl ?_
          refine W.widen (k := 1) (n := 12) (by omega) (by omega) ?_
          exact kret_i F hI dX1_piece_178 (⟨q, hq, by simp [x_piece, hh, hw, hr, h24, ef], by simp [x_piece, hh, hw, hr, h24, ef]⟩)
        · have hl := hl
          refine lv_aload_n hx hb dX1_piece_41 rfl (lv_at hl 0 rfl) ?_
          refine lv_iload_n hx hb dX1_piece_42 rfl (lv_at hl 1 rfl) ?_
          refine kcallV (rest := []) F hA hI (xc_homeOf l _ n hn) kgX1_63 (x_rec F hI) hl.1 rfl rfl (Nat.le_of_ble_eq_true rfl) dX1_piece_43 ⟨Nat.le_of_ble_eq_true rfl, Nat.le_of_ble_eq_true rfl⟩ ⟨Nat.le_of_ble_eq_true rfl, Nat.le_of_ble_eq_true rfl⟩ (fun vq uq H locs hp hI => ?_)
          obtain ⟨rfl, hu⟩ := hp
          rw [hu] at hI
          clear hu
          refine kstk (b := .int _ :: []) rfl ?_
          refine lv_istore (lv' := [(6, .int _), (0, .ref _), (1, .int _), (2, .int _), (3, .int _), (4, .int _), (5, .int _)]) hx hb dX1_piece_46 hl (by decide) rfl (fun ls hl => ?_)
          refine lv_iload hx hb dX1_piece_48 (lv_at hl 0 rfl) ?_
          refine lv_bipush (v := -9) hx hb dX1_piece_50 (by decide) ?_
          refine lv_icmp_ne (tgt := 64) hx hb dX1_piece_52 (by decide) (fun c52 => ?_) (fun c52 => absurd c52 (hh))
          refine lv_aload_n hx hb dX1_piece_64 rfl (lv_at hl 1 rfl) ?_
          refine x_get F hI 5 (by decide) rfl flX1_38 dX1_piece_65 ?_
          refine lv_iload_n hx hb dX1_piece_68 rfl (lv_at hl 2 rfl) ?_
          refine x_rld F hI 0 (show n < 100 by omega) rfl dX1_piece_69 ?_
          refine kstk (b := .null :: _) (by rw [hw]; rfl) ?_
          refine lv_astoreN (lv' := [(7, .null), (6, .int _), (0, .ref _), (1, .int _), (2, .int _), (3, .int _), (4, .int _), (5, .int _)]) hx hb dX1_piece_70 hl (by decide) rfl (fun ls hl => ?_)
          refine lv_aloadN hx hb dX1_piece_72 (lv_at hl 0 rfl) ?_
          refine lv_ifnullN (tgt := 88) hx hb dX1_piece_74 (by decide) ?_
          refine lv_aload_n hx hb dX1_piece_88 rfl (lv_at hl 2 rfl) ?_
          refine lv_iload_n hx hb dX1_piece_89 rfl (lv_at hl 3 rfl) ?_
          refine kcallV (rest := []) F hA hI (xc_recall l _ n hn hD) kgX1_88 (x_rec F hI) hl.1 rfl rfl (Nat.le_of_ble_eq_true rfl) dX1_piece_90 ⟨Nat.le_of_ble_eq_true rfl, Nat.le_of_ble_eq_true rfl⟩ ⟨Nat.le_of_ble_eq_true rfl, Nat.le_of_ble_eq_true rfl⟩ (fun vq uq H locs hp hI => ?_)
          obtain ⟨rfl, hu⟩ := hp
          rw [hu] at hI
          clear hu
          refine kstk (b := .null :: []) (by rw [hr]; rfl) ?_
          refine lv_astoreN (lv' := [(8, .null), (7, .null), (6, .int _), (0, .ref _), (1, .int _), (2, .int _), (3, .int _), (4, .int _), (5, .int _)]) hx hb dX1_piece_93 hl (by decide) rfl (fun ls hl => ?_)
          refine lv_aloadN hx hb dX1_piece_95 (lv_at hl 0 rfl) ?_
          refine lv_ifnullN (tgt := 110) hx hb dX1_piece_97 (by decide) ?_
          refine lv_aload_n hx hb dX1_piece_110 rfl (lv_at hl 3 rfl) ?_
          refine x_get F hI 2 (by decide) rfl flX1_25 dX1_piece_111 ?_
          refine lv_iconst (v := nI 1) hx hb dX1_piece_114 (by decide) ?_
          refine x_ald F hI 2 (show 1 < 13 by omega) rfl dX1_piece_115 ?_
          refine lv_bipush (v := nI 24) hx hb dX1_piece_116 (by decide) ?_
          refine lv_icmp_lt (tgt := 130) hx hb dX1_piece_118 (by decide) (fun c118 => absurd c118 (h24)) (fun c118 => ?_)
          refine lv_aload_n hx hb dX1_piece_121 rfl (lv_at hl 3 rfl) ?_
          refine lv_bipush (v := nI 9) hx hb dX1_piece_122 (by decide) ?_
          refine lv_bipush (v := nI 7) hx hb dX1_piece_124 (by decide) ?_
          refine kcallV (rest := []) F hA hI (xc_counted l _ 9 (nI 7) (by decide)) kgX1_80 (x_rec F hI) hl.1 rfl rfl (Nat.le_of_ble_eq_true rfl) dX1_piece_126 ⟨Nat.le_of_ble_eq_true rfl, Nat.le_of_ble_eq_true rfl⟩ ⟨Nat.le_of_ble_eq_true rfl, Nat.le_of_ble_eq_true rfl⟩ (fun vq uq H locs hp hI => ?_)
          obtain ⟨rfl, hu⟩ := hp
          rw [hu] at hI
          clear hu
          refine kstk (b := .int _ :: []) rfl ?_
          refine W.widen (k := 1) (n := 12) (by omega) (by omega) ?_
          exact kret_i F hI dX1_piece_129 (⟨q0, hq0, by simp [x_piece, hh, hw, hr, h24], by simp [x_piece, hh, hw, hr, h24]⟩)
      · have ha : a ∈ st.2.2.2.1 := by
          unfold x_recall at hr
          cases hd : st.2.1 1 n with
          | none => rw [hd] at hr; cases hr
          | some b =>
            rw [hd] at hr
            dsimp only at hr
            split at hr
            · cases hr; exact hD a hd
            · cases hr
        refine lv_aload_n hx hb dX1_piece_41 rfl (lv_at hl 0 rfl) ?_
        refine lv_iload_n hx hb dX1_piece_42 rfl (lv_at hl 1 rfl) ?_
        refine kcallV (rest := []) F hA hI (xc_homeOf l _ n hn) kgX1_63 (x_rec F hI) hl.1 rfl rfl (Nat.le_of_ble_eq_true rfl) dX1_piece_43 ⟨Nat.le_of_ble_eq_true rfl, Nat.le_of_ble_eq_true rfl⟩ ⟨Nat.le_of_ble_eq_true rfl, Nat.le_of_ble_eq_true rfl⟩ (fun vq uq H locs hp hI => ?_)
        obtain ⟨rfl, hu⟩ := hp
        rw [hu] at hI
        clear hu
        refine kstk (b := .int _ :: []) rfl ?_
        refine lv_istore (lv' := [(6, .int _), (0, .ref _), (1, .int _), (2, .int _), (3, .int _), (4, .int _), (5, .int _)]) hx hb dX1_piece_46 hl (by decide) rfl (fun ls hl => ?_)
        refine lv_iload hx hb dX1_piece_48 (lv_at hl 0 rfl) ?_
        refine lv_bipush (v := -9) hx hb dX1_piece_50 (by decide) ?_
        refine lv_icmp_ne (tgt := 64) hx hb dX1_piece_52 (by decide) (fun c52 => ?_) (fun c52 => absurd c52 (hh))
        refine lv_aload_n hx hb dX1_piece_64 rfl (lv_at hl 1 rfl) ?_
        refine x_get F hI 5 (by decide) rfl flX1_38 dX1_piece_65 ?_
        refine lv_iload_n hx hb dX1_piece_68 rfl (lv_at hl 2 rfl) ?_
        refine x_rld F hI 0 (show n < 100 by omega) rfl dX1_piece_69 ?_
        refine kstk (b := .null :: _) (by rw [hw]; rfl) ?_
        refine lv_astoreN (lv' := [(7, .null), (6, .int _), (0, .ref _), (1, .int _), (2, .int _), (3, .int _), (4, .int _), (5, .int _)]) hx hb dX1_piece_70 hl (by decide) rfl (fun ls hl => ?_)
        refine lv_aloadN hx hb dX1_piece_72 (lv_at hl 0 rfl) ?_
        refine lv_ifnullN (tgt := 88) hx hb dX1_piece_74 (by decide) ?_
        refine lv_aload_n hx hb dX1_piece_88 rfl (lv_at hl 2 rfl) ?_
        refine lv_iload_n hx hb dX1_piece_89 rfl (lv_at hl 3 rfl) ?_
        refine kcallV (rest := []) F hA hI (xc_recall l _ n hn hD) kgX1_88 (x_rec F hI) hl.1 rfl rfl (Nat.le_of_ble_eq_true rfl) dX1_piece_90 ⟨Nat.le_of_ble_eq_true rfl, Nat.le_of_ble_eq_true rfl⟩ ⟨Nat.le_of_ble_eq_true rfl, Nat.le_of_ble_eq_true rfl⟩ (fun vq uq H locs hp hI => ?_)
        obtain ⟨rfl, hu⟩ := hp
        rw [hu] at hI
        clear hu
        refine kstk (b := .ref a :: []) (by rw [hr]; rfl) ?_
        refine lv_astore (lv' := [(8, .ref _), (7, .null), (6, .int _), (0, .ref _), (1, .int _), (2, .int _), (3, .int _), (4, .int _), (5, .int _)]) hx hb dX1_piece_93 hl (by decide) rfl (fun ls hl => ?_)
        refine lv_aload hx hb dX1_piece_95 (lv_at hl 0 rfl) ?_
        refine lv_ifnull hx hb dX1_piece_97 ?_
        refine lv_aload_n hx hb dX1_piece_100 rfl (lv_at hl 3 rfl) ?_
        refine lv_aload hx hb dX1_piece_101 (lv_at hl 0 rfl) ?_
        refine lv_iload_n hx hb dX1_piece_103 rfl (lv_at hl 5 rfl) ?_
        refine lv_iload hx hb dX1_piece_104 (lv_at hl 8 rfl) ?_
        refine kcallV (rest := []) F hA hI (xc_hearD l _ a pq z hp ha) kgX1_92 (x_rec F hI) hl.1 rfl rfl (Nat.le_of_ble_eq_true rfl) dX1_piece_106 ⟨Nat.le_of_ble_eq_true rfl, Nat.le_of_ble_eq_true rfl⟩ ⟨Nat.le_of_ble_eq_true rfl, Nat.le_of_ble_eq_true rfl⟩ (fun vq uq H locs hp hI => ?_)
        obtain ⟨rfl, hu⟩ := hp
        rw [hu] at hI
        clear hu
        refine kstk (b := .int _ :: []) rfl ?_
        refine W.widen (k := 1) (n := 12) (by omega) (by omega) ?_
        exact kret_i F hI dX1_piece_109 (⟨q0, hq0, by simp [x_piece, hh, hw, hr], by simp [x_piece, hh, hw, hr]⟩)
    · have hl := hl
      refine lv_aload_n hx hb dX1_piece_41 rfl (lv_at hl 0 rfl) ?_
      refine lv_iload_n hx hb dX1_piece_42 rfl (lv_at hl 1 rfl) ?_
      refine kcallV (rest := []) F hA hI (xc_homeOf l _ n hn) kgX1_63 (x_rec F hI) hl.1 rfl rfl (Nat.le_of_ble_eq_true rfl) dX1_piece_43 ⟨Nat.le_of_ble_eq_true rfl, Nat.le_of_ble_eq_true rfl⟩ ⟨Nat.le_of_ble_eq_true rfl, Nat.le_of_ble_eq_true rfl⟩ (fun vq uq H locs hp hI => ?_)
      obtain ⟨rfl, hu⟩ := hp
      rw [hu] at hI
      clear hu
      refine kstk (b := .int _ :: []) rfl ?_
      refine lv_istore (lv' := [(6, .int _), (0, .ref _), (1, .int _), (2, .int _), (3, .int _), (4, .int _), (5, .int _)]) hx hb dX1_piece_46 hl (by decide) rfl (fun ls hl => ?_)
      refine lv_iload hx hb dX1_piece_48 (lv_at hl 0 rfl) ?_
      refine lv_bipush (v := -9) hx hb dX1_piece_50 (by decide) ?_
      refine lv_icmp_ne (tgt := 64) hx hb dX1_piece_52 (by decide) (fun c52 => ?_) (fun c52 => absurd c52 (hh))
      refine lv_aload_n hx hb dX1_piece_64 rfl (lv_at hl 1 rfl) ?_
      refine x_get F hI 5 (by decide) rfl flX1_38 dX1_piece_65 ?_
      refine lv_iload_n hx hb dX1_piece_68 rfl (lv_at hl 2 rfl) ?_
      refine x_rld F hI 0 (show n < 100 by omega) rfl dX1_piece_69 ?_
      refine kstk (b := .ref a :: _) (by rw [hw]; rfl) ?_
      refine lv_astore (lv' := [(7, .ref _), (6, .int _), (0, .ref _), (1, .int _), (2, .int _), (3, .int _), (4, .int _), (5, .int _)]) hx hb dX1_piece_70 hl (by decide) rfl (fun ls hl => ?_)
      refine lv_aload hx hb dX1_piece_72 (lv_at hl 0 rfl) ?_
      refine lv_ifnull hx hb dX1_piece_74 ?_
      refine lv_aload_n hx hb dX1_piece_77 rfl (lv_at hl 2 rfl) ?_
      refine lv_aload hx hb dX1_piece_78 (lv_at hl 0 rfl) ?_
      refine lv_iload_n hx hb dX1_piece_80 rfl (lv_at hl 4 rfl) ?_
      refine lv_iload_n hx hb dX1_piece_81 rfl (lv_at hl 5 rfl) ?_
      refine lv_iload hx hb dX1_piece_82 (lv_at hl 7 rfl) ?_
      refine kcallV (rest := []) F hA hI (xc_hearW l _ a pq il z n e' hp hn he (hW a hw) h2) kgX1_84 (x_rec F hI) hl.1 rfl rfl (Nat.le_of_ble_eq_true rfl) dX1_piece_84 ⟨Nat.le_of_ble_eq_true rfl, Nat.le_of_ble_eq_true rfl⟩ ⟨Nat.le_of_ble_eq_true rfl, Nat.le_of_ble_eq_true rfl⟩ (fun vq uq H locs hp hI => ?_)
      obtain ⟨rfl, hu⟩ := hp
      rw [hu] at hI
      clear hu
      refine kstk (b := .int _ :: []) rfl ?_
      refine W.widen (k := 1) (n := 12) (by omega) (by omega) ?_
      exact kret_i F hI dX1_piece_87 (⟨q0, hq0, by simp [x_piece, hh, hw], by simp [x_piece, hh, hw]⟩)
  refine lv_iload_n hx hb dX1_piece_0 rfl (lv_at hl 1 rfl) ?_
  refine lv_bipush (v := nI 100) hx hb dX1_piece_1 (by decide) ?_
  refine kcallS (rest := []) F hA hI (xc_isBelow l _ _ _) kgX1_52 hl.1 rfl rfl (Nat.le_of_ble_eq_true rfl) dX1_piece_3 ⟨Nat.le_of_ble_eq_true rfl, Nat.le_of_ble_eq_true rfl⟩ ⟨Nat.le_of_ble_eq_true rfl, Nat.le_of_ble_eq_true rfl⟩ (fun vq uq H locs hp hI => ?_)
  obtain ⟨rfl, hu⟩ := hp
  rw [hu] at hI
  clear hu
  refine kstk (b := .int _ :: []) rfl ?_
  refine lv_if_eq (tgt := 39) hx hb dX1_piece_6 (by decide) (fun c6 => absurd c6 ((fun q => by rw [bI_z, g1] at q; cases q))) (fun c6 => ?_)
  refine lv_iload_n hx hb dX1_piece_9 rfl (lv_at hl 2 rfl) ?_
  refine lv_bipush (v := nI 8) hx hb dX1_piece_10 (by decide) ?_
  refine kcallS (rest := []) F hA hI (xc_isBelow l _ _ _) kgX1_52 hl.1 rfl rfl (Nat.le_of_ble_eq_true rfl) dX1_piece_12 ⟨Nat.le_of_ble_eq_true rfl, Nat.le_of_ble_eq_true rfl⟩ ⟨Nat.le_of_ble_eq_true rfl, Nat.le_of_ble_eq_true rfl⟩ (fun vq uq H locs hp hI => ?_)
  obtain ⟨rfl, hu⟩ := hp
  rw [hu] at hI
  clear hu
  refine kstk (b := .int _ :: []) rfl ?_
  refine lv_if_eq (tgt := 39) hx hb dX1_piece_15 (by decide) (fun c15 => absurd c15 ((fun q => by rw [bI_z, g2] at q; cases q))) (fun c15 => ?_)
  refine lv_iload hx hb dX1_piece_18 (lv_at hl 4 rfl) ?_
  refine lv_iconst (v := nI 5) hx hb dX1_piece_20 (by decide) ?_
  refine kcallS (rest := []) F hA hI (xc_isBelow l _ _ _) kgX1_52 hl.1 rfl rfl (Nat.le_of_ble_eq_true rfl) dX1_piece_21 ⟨Nat.le_of_ble_eq_true rfl, Nat.le_of_ble_eq_true rfl⟩ ⟨Nat.le_of_ble_eq_true rfl, Nat.le_of_ble_eq_true rfl⟩ (fun vq uq H locs hp hI => ?_)
  obtain ⟨rfl, hu⟩ := hp
  rw [hu] at hI
  clear hu
  refine kstk (b := .int _ :: []) rfl ?_
  refine lv_if_eq (tgt := 39) hx hb dX1_piece_24 (by decide) (fun c24 => absurd c24 ((fun q => by rw [bI_z, g3] at q; cases q))) (fun c24 => ?_)
  refine lv_iload hx hb dX1_piece_27 (lv_at hl 5 rfl) ?_
  refine lv_iconst (v := nI 1) hx hb dX1_piece_29 (by decide) ?_
  refine lv_sipush (v := nI 1000) hx hb dX1_piece_30 (by decide) ?_
  refine kcallS (rest := []) F hA hI (xc_isWithin l _ _ _ _) kgX1_73 hl.1 rfl rfl (Nat.le_of_ble_eq_true rfl) dX1_piece_33 ⟨Nat.le_of_ble_eq_true rfl, Nat.le_of_ble_eq_true rfl⟩ ⟨Nat.le_of_ble_eq_true rfl, Nat.le_of_ble_eq_true rfl⟩ (fun vq uq H locs hp hI => ?_)
  obtain ⟨rfl, hu⟩ := hp
  rw [hu] at hI
  clear hu
  refine kstk (b := .int _ :: []) rfl ?_
  refine lv_if_ne (tgt := 41) hx hb dX1_piece_36 (by decide) (fun c36 => ?_) (fun c36 => absurd c36 ((fun q => by rw [bI_z, g4] at q; cases q)))
  exact h41 _ _ _ hI hl
end XC3
