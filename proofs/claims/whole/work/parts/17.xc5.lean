/-! the class: what it answers -/
def x_wval (st : XS) (a : Nat) : Nat → Int32
  | 0 => cf st a 3
  | 1 => cf st a 4
  | 2 => cf st a 1
  | 3 => cf st a 5
  | 4 => cf st a 6
  | _ => st.1 2 0 - cf st a 2
def x_waits (st : XS) (n w : Nat) : Int32 := match st.2.1 0 n with
  | none => -9
  | some a => x_wval st a w
def x_rem (st : XS) (n : Nat) : Int32 := match x_recall st n with
  | none => -9
  | some a => if cf st a 10 = 0 then nI 0 else nI 1
def x_kat (st : XS) (x : Int32) : Option Nat := if decide (¬ x < 0 ∧ ¬ nI 20 ≤ x) = true then st.2.1 2 x.toNatClampNeg else none
def x_kval (st : XS) (a : Nat) : Nat → Int32
  | 0 => cf st a 0
  | 1 => cf st a 4
  | 2 => cf st a 1
  | 3 => cf st a 5
  | 4 => cf st a 8
  | 5 => if cf st a 9 = 0 then nI 0 else nI 1
  | _ => cf st a 7
def x_closeL : Nat → Nat → XS → XS
  | 0, _, st => st
  | f + 1, k, st => x_closeL f (k + 1) (xrf st 2 k (st.2.1 2 (k + 1)))
def x_close (st : XS) (i : Nat) : XS := xsub (xrf (x_closeL (19 - i) i st) 2 19 none) 2 2 (nI 1)
def x_take (st : XS) (i a sh : Nat) (w : Int32) : XS := xadd (xsub (xc (xc (x_close st i) a 10 (nI 0)) a 11 (nI 1)) (4 + sh) 1 w) (4 + sh) 2 w
def x_leaveL : Nat → Nat → XS → XS
  | 0, _, st => st
  | f + 1, i, st => x_leaveL f (i + 1) (xset (xadd st (4 + i) 6 (st.1 (4 + i) 5)) (4 + i) 5 (nI 0))
def x_setR (st : XS) (w : Nat) (v : Int32) : XS := xset (if w = 0 ∧ ¬ v = st.1 1 w then x_leaveL 5 0 st else st) 1 w v
def lfS : Nat → Int32
  | 0 => 1
  | 1 => 1
  | 2 => 0
  | 3 => 0
  | 4 => 1
  | _ => 0
def gfS : Nat → Int32
  | 0 => 9
  | 1 => 8000
  | 2 => 9
  | 3 => 1
  | 4 => 20
  | _ => 20
/-- the rows of settings' bounds, which nobody writes -/
def zst (A : Nat → Prop) (U : State) : Prop := ∃ t1 t2, va_Z RX1 "LEAST_SETTINGS" "[I" (.ref t1) A U U.heap ∧ va_T .int t1 6 (fun j => .int (lfS j)) A U U.heap ∧ va_Z RX1 "GREATEST_SETTINGS" "[I" (.ref t2) A U U.heap ∧ va_T .int t2 6 (fun j => .int (gfS j)) A U U.heap
def kMZ {S : Type} (l : Launch) (y : MethodName) (cc : ByteArray) (n : Nat) (r : Option FieldType) (fr lo mc ms : Nat) (D : va_G) (tys : List (ClassId × FieldType)) (wo : S → va_W) (av : List Value) (st : S) (post : Option Value → S → Prop) : Prop :=
  ∀ sz : Nat, Met l y (.code y cc n r :: wsL_law) { frames := fr, cells := mc, slots := ms, locals := lo } (va_Pc av (fun U => kPre D tys wo st sz U ∧ zst (va_A (wo st) sz) U)) (kQ D tys wo post (va_A (wo st) sz)) mc ms (va_A (wo st) sz)
theorem kMZ_intro {S : Type} {l : Launch} {y : MethodName} {cc : ByteArray} {n : Nat} {r : Option FieldType} {fr lo mc ms : Nat} {D : va_G} {tys : List (ClassId × FieldType)} {wo : S → va_W} {av : List Value} {st : S} {post : Option Value → S → Prop}
    (hy : plainName y.cls = true) (hn : (lg_sl av).length ≤ n)
    (body : ∀ (p : Program) (e : Env) (s : State) (m : MethodId) (below : List Frame) (meth : Method) (c : Code) (A : Nat → Prop) (ls : Array Slot), kF p s m av.toArray meth c y cc n r D tys → (∀ q, s.heap.size ≤ q → A q) → kI D wo A s.heap st s.heap [] → zst A s → lv_has ls n (lv_args 0 av) →
      W p l e { frames := fr, cells := mc, slots := ms, locals := lo } s m av.toArray below meth c s.heap [] 0 0 (MQ below (kQ D tys wo post A) av.toArray s mc ms A) (F0 m 0 ls [])) : kMZ l y cc n r fr lo mc ms D tys wo av st post := by
  intro sz
  refine Met.ofW (cc := cc) (maxL := n) (ret := r) hy rfl ?_
  intro p e s m args below meth c s₁ B hml hv
  obtain ⟨rfl, ⟨hsz, hP, hK, hD0⟩, hZ⟩ := hv
  subst hsz
  have hD := hD0.self (sz := s.heap.size)
  have hts := atoms_spec (ws := .code y cc n r :: wsL_law) B.pre
  have hl := lv_entry av (n := n) hn
  rw [lg_entry_eq]
  exact body p e s m below meth c _ _ ⟨B.exec, B.bytes, B.returns, hml, findClass_of_methodNamed B.named, fun w h => hts w (List.mem_cons_of_mem _ h), B.notSynchronized, hK, (name_of_methodNamed B.named B.method).1⟩ (fun q h => Or.inr h) ⟨hP, hD, va_S.rf⟩ hZ hl
theorem isB_n {x : Int32} {N : Nat} (hN : N < 2 ^ 31) (h : decide (¬ x < 0 ∧ ¬ nI N ≤ x) = true) : ∃ j, j < N ∧ x = nI j := by
  rw [decide_eq_true_eq] at h
  obtain ⟨j, hj, rfl⟩ := nI_of h.1
  have := h.2
  rw [nI_leI hN hj] at this
  exact ⟨j, by omega, rfl⟩
theorem x_kat_n (st : XS) {i : Nat} (hi : i < 20) : x_kat st (nI i) = st.2.1 2 i := by
  rw [x_kat, if_pos (isB_t hi (by decide)), nI_clamp (by omega)]
theorem x_kat_s {st : XS} {x : Int32} {a : Nat} (h : x_kat st x = some a) : ∃ i, i < 20 ∧ x = nI i ∧ st.2.1 2 i = some a := by
  unfold x_kat at h
  split at h
  · rename_i q
    obtain ⟨j, hj, rfl⟩ := isB_n (by decide) q
    rw [nI_clamp (by omega)] at h
    exact ⟨j, hj, rfl, h⟩
  · cases h
section XC5
variable (l : Launch) {D : va_G} {g : Nat → Nat} {K : Nat → ClassId}
theorem xc_waits_bad (st : XS) (x w : Int32) (h : decide (¬ x < 0 ∧ ¬ nI 100 ≤ x) = false ∨ decide (¬ w < 0 ∧ ¬ nI 6 ≤ w) = false) : kM l yX1_waits cX1_waits 4 (some .int) 1 21 0 0 D (xty K) (xw g K) [.ref (g 0), .int x, .int w] st (fun v u => v = some (.int (-1)) ∧ u = st) := by
  refine kM_intro (by decide) (Nat.le_of_ble_eq_true rfl) ?_
  intro p e s m below meth c A ls F hA hI hl
  obtain ⟨hx, hb, hr, hml, hown, hts, hlk, hK, hnm⟩ := id F
  have hl : lv_has ls 4 [(0, .ref (g 0)), (1, .int x), (2, .int w)] := hl
  refine lv_iload_n hx hb dX1_waits_0 rfl (lv_at hl 1 rfl) ?_
  refine lv_bipush (v := nI 100) hx hb dX1_waits_1 (by decide) ?_
  refine kcallS (rest := []) F hA hI (xc_isBelow l _ _ _) kgX1_52 hl.1 rfl rfl (Nat.le_of_ble_eq_true rfl) dX1_waits_3 ⟨Nat.le_of_ble_eq_true rfl, Nat.le_of_ble_eq_true rfl⟩ ⟨Nat.le_of_ble_eq_true rfl, Nat.le_of_ble_eq_true rfl⟩ (fun vq uq H locs hp hI => ?_)
  obtain ⟨rfl, hu⟩ := hp
  rw [hu] at hI
  clear hu
  refine kstk (b := .int _ :: []) rfl ?_
  refine lv_if_eq (tgt := 18) hx hb dX1_waits_6 (by decide) (fun c6 => ?_) (fun c6 => ?_)
  ·
    rw [bI_z] at c6
    refine lv_iconst (v := -1) hx hb dX1_waits_18 (by decide) ?_
    exact kret_i F hI dX1_waits_19 (⟨rfl, rfl⟩)
  ·
    rw [bI_z] at c6
    refine lv_iload_n hx hb dX1_waits_9 rfl (lv_at hl 2 rfl) ?_
    refine lv_bipush (v := nI 6) hx hb dX1_waits_10 (by decide) ?_
    refine kcallS (rest := []) F hA hI (xc_isBelow l _ _ _) kgX1_52 hl.1 rfl rfl (Nat.le_of_ble_eq_true rfl) dX1_waits_12 ⟨Nat.le_of_ble_eq_true rfl, Nat.le_of_ble_eq_true rfl⟩ ⟨Nat.le_of_ble_eq_true rfl, Nat.le_of_ble_eq_true rfl⟩ (fun vq uq H locs hp hI => ?_)
    obtain ⟨rfl, hu⟩ := hp
    rw [hu] at hI
    clear hu
    refine kstk (b := .int _ :: []) rfl ?_
    refine lv_if_ne (tgt := 20) hx hb dX1_waits_15 (by decide) (fun c15 => absurd c15 ((fun q => q (bI_z.mpr (h.resolve_left c6))))) (fun c15 => ?_)
    refine lv_iconst (v := -1) hx hb dX1_waits_18 (by decide) ?_
    exact kret_i F hI dX1_waits_19 (⟨rfl, rfl⟩)
theorem xc_waits (st : XS) (n w : Nat) (hn : n < 100) (hw : w < 6) (ha : ∀ a, st.2.1 0 n = some a → a ∈ st.2.2.2.1) : kM l yX1_waits cX1_waits 4 (some .int) 1 21 0 0 D (xty K) (xw g K) [.ref (g 0), .int (nI n), .int (nI w)] st (fun v u => v = some (.int (x_waits st n w)) ∧ u = st) := by
  refine kM_intro (by decide) (Nat.le_of_ble_eq_true rfl) ?_
  intro p e s m below meth c A ls F hA hI hl
  obtain ⟨hx, hb, hr, hml, hown, hts, hlk, hK, hnm⟩ := id F
  have hl : lv_has ls 4 [(0, .ref (g 0)), (1, .int (nI n)), (2, .int (nI w))] := hl
  have g1 := isB_t (show n < 100 by omega) (by decide)
  have g2 := isB_t (show w < 6 by omega) (by decide)
  rcases ho : st.2.1 0 n with _ | a
  · have hl := hl
    refine lv_iload_n hx hb dX1_waits_0 rfl (lv_at hl 1 rfl) ?_
    refine lv_bipush (v := nI 100) hx hb dX1_waits_1 (by decide) ?_
    refine kcallS (rest := []) F hA hI (xc_isBelow l _ _ _) kgX1_52 hl.1 rfl rfl (Nat.le_of_ble_eq_true rfl) dX1_waits_3 ⟨Nat.le_of_ble_eq_true rfl, Nat.le_of_ble_eq_true rfl⟩ ⟨Nat.le_of_ble_eq_true rfl, Nat.le_of_ble_eq_true rfl⟩ (fun vq uq H locs hp hI => ?_)
    obtain ⟨rfl, hu⟩ := hp
    rw [hu] at hI
    clear hu
    refine kstk (b := .int _ :: []) rfl ?_
    refine lv_if_eq (tgt := 18) hx hb dX1_waits_6 (by decide) (fun c6 => absurd c6 ((fun q => by rw [bI_z, g1] at q; cases q))) (fun c6 => ?_)
    refine lv_iload_n hx hb dX1_waits_9 rfl (lv_at hl 2 rfl) ?_
    refine lv_bipush (v := nI 6) hx hb dX1_waits_10 (by decide) ?_
    refine kcallS (rest := []) F hA hI (xc_isBelow l _ _ _) kgX1_52 hl.1 rfl rfl (Nat.le_of_ble_eq_true rfl) dX1_waits_12 ⟨Nat.le_of_ble_eq_true rfl, Nat.le_of_ble_eq_true rfl⟩ ⟨Nat.le_of_ble_eq_true rfl, Nat.le_of_ble_eq_true rfl⟩ (fun vq uq H locs hp hI => ?_)
    obtain ⟨rfl, hu⟩ := hp
    rw [hu] at hI
    clear hu
    refine kstk (b := .int _ :: []) rfl ?_
    refine lv_if_ne (tgt := 20) hx hb dX1_waits_15 (by decide) (fun c15 => ?_) (fun c15 => absurd c15 ((fun q => by rw [bI_z, g2] at q; cases q)))
    refine lv_aload_n hx hb dX1_waits_20 rfl (lv_at hl 0 rfl) ?_
    refine x_get F hI 5 (by decide) rfl flX1_38 dX1_waits_21 ?_
    refine lv_iload_n hx hb dX1_waits_24 rfl (lv_at hl 1 rfl) ?_
    refine x_rld F hI 0 (show n < 100 by omega) rfl dX1_waits_25 ?_
    refine kstk (b := .null :: _) (by rw [ho]; rfl) ?_
    refine lv_astore_nN (lv' := [(3, .null), (0, .ref _), (1, .int _), (2, .int _)]) hx hb dX1_waits_26 rfl hl (by decide) rfl (fun ls hl => ?_)
    refine lv_aload_nN hx hb dX1_waits_27 rfl (lv_at hl 0 rfl) ?_
    refine lv_ifnonnullN hx hb dX1_waits_28 ?_
    refine lv_bipush (v := -9) hx hb dX1_waits_31 (by decide) ?_
    exact kret_i F hI dX1_waits_33 (⟨by simp [x_waits, ho], rfl⟩)
  have ha := ha a ho
  rcases (show w = 0 ∨ w = 1 ∨ w = 2 ∨ w = 3 ∨ w = 4 ∨ w = 5 by omega) with rfl | rfl | rfl | rfl | rfl | rfl
  · have hl := hl
    refine lv_iload_n hx hb dX1_waits_0 rfl (lv_at hl 1 rfl) ?_
    refine lv_bipush (v := nI 100) hx hb dX1_waits_1 (by decide) ?_
    refine kcallS (rest := []) F hA hI (xc_isBelow l _ _ _) kgX1_52 hl.1 rfl rfl (Nat.le_of_ble_eq_true rfl) dX1_waits_3 ⟨Nat.le_of_ble_eq_true rfl, Nat.le_of_ble_eq_true rfl⟩ ⟨Nat.le_of_ble_eq_true rfl, Nat.le_of_ble_eq_true rfl⟩ (fun vq uq H locs hp hI => ?_)
    obtain ⟨rfl, hu⟩ := hp
    rw [hu] at hI
    clear hu
    refine kstk (b := .int _ :: []) rfl ?_
    refine lv_if_eq (tgt := 18) hx hb dX1_waits_6 (by decide) (fun c6 => absurd c6 ((fun q => by rw [bI_z, g1] at q; cases q))) (fun c6 => ?_)
    refine lv_iload_n hx hb dX1_waits_9 rfl (lv_at hl 2 rfl) ?_
    refine lv_bipush (v := nI 6) hx hb dX1_waits_10 (by decide) ?_
    refine kcallS (rest := []) F hA hI (xc_isBelow l _ _ _) kgX1_52 hl.1 rfl rfl (Nat.le_of_ble_eq_true rfl) dX1_waits_12 ⟨Nat.le_of_ble_eq_true rfl, Nat.le_of_ble_eq_true rfl⟩ ⟨Nat.le_of_ble_eq_true rfl, Nat.le_of_ble_eq_true rfl⟩ (fun vq uq H locs hp hI => ?_)
    obtain ⟨rfl, hu⟩ := hp
    rw [hu] at hI
    clear hu
    refine kstk (b := .int _ :: []) rfl ?_
    refine lv_if_ne (tgt := 20) hx hb dX1_waits_15 (by decide) (fun c15 => ?_) (fun c15 => absurd c15 ((fun q => by rw [bI_z, g2] at q; cases q)))
    refine lv_aload_n hx hb dX1_waits_20 rfl (lv_at hl 0 rfl) ?_
    refine x_get F hI 5 (by decide) rfl flX1_38 dX1_waits_21 ?_
    refine lv_iload_n hx hb dX1_waits_24 rfl (lv_at hl 1 rfl) ?_
    refine x_rld F hI 0 (show n < 100 by omega) rfl dX1_waits_25 ?_
    refine kstk (b := .ref a :: _) (by rw [ho]; rfl) ?_
    refine lv_astore_n (lv' := [(3, .ref _), (0, .ref _), (1, .int _), (2, .int _)]) hx hb dX1_waits_26 rfl hl (by decide) rfl (fun ls hl => ?_)
    refine lv_aload_n hx hb dX1_waits_27 rfl (lv_at hl 0 rfl) ?_
    refine lv_ifnonnull (tgt := 34) hx hb dX1_waits_28 (by decide) ?_
    refine lv_iload_n hx hb dX1_waits_34 rfl (lv_at hl 3 rfl) ?_
    refine lv_tableIn (off := 33) (tgt := 68) hx hb dX1_waits_35 (by decide) (by decide) (by decide) (by decide) ?_
    refine lv_aload_n hx hb dX1_waits_68 rfl (lv_at hl 0 rfl) ?_
    refine x_cget F hI ha 3 (by decide) rfl flX1_105 dX1_waits_69 ?_
    exact kret_i F hI dX1_waits_72 (⟨by simp [x_waits, ho, x_wval], rfl⟩)
  · have hl := hl
    refine lv_iload_n hx hb dX1_waits_0 rfl (lv_at hl 1 rfl) ?_
    refine lv_bipush (v := nI 100) hx hb dX1_waits_1 (by decide) ?_
    refine kcallS (rest := []) F hA hI (xc_isBelow l _ _ _) kgX1_52 hl.1 rfl rfl (Nat.le_of_ble_eq_true rfl) dX1_waits_3 ⟨Nat.le_of_ble_eq_true rfl, Nat.le_of_ble_eq_true rfl⟩ ⟨Nat.le_of_ble_eq_true rfl, Nat.le_of_ble_eq_true rfl⟩ (fun vq uq H locs hp hI => ?_)
    obtain ⟨rfl, hu⟩ := hp
    rw [hu] at hI
    clear hu
    refine kstk (b := .int _ :: []) rfl ?_
    refine lv_if_eq (tgt := 18) hx hb dX1_waits_6 (by decide) (fun c6 => absurd c6 ((fun q => by rw [bI_z, g1] at q; cases q))) (fun c6 => ?_)
    refine lv_iload_n hx hb dX1_waits_9 rfl (lv_at hl 2 rfl) ?_
    refine lv_bipush (v := nI 6) hx hb dX1_waits_10 (by decide) ?_
    refine kcallS (rest := []) F hA hI (xc_isBelow l _ _ _) kgX1_52 hl.1 rfl rfl (Nat.le_of_ble_eq_true rfl) dX1_waits_12 ⟨Nat.le_of_ble_eq_true rfl, Nat.le_of_ble_eq_true rfl⟩ ⟨Nat.le_of_ble_eq_true rfl, Nat.le_of_ble_eq_true rfl⟩ (fun vq uq H locs hp hI => ?_)
    obtain ⟨rfl, hu⟩ := hp
    rw [hu] at hI
    clear hu
    refine kstk (b := .int _ :: []) rfl ?_
    refine lv_if_ne (tgt := 20) hx hb dX1_waits_15 (by decide) (fun c15 => ?_) (fun c15 => absurd c15 ((fun q => by rw [bI_z, g2] at q; cases q)))
    refine lv_aload_n hx hb dX1_waits_20 rfl (lv_at hl 0 rfl) ?_
    refine x_get F hI 5 (by decide) rfl flX1_38 dX1_waits_21 ?_
    refine lv_iload_n hx hb dX1_waits_24 rfl (lv_at hl 1 rfl) ?_
    refine x_rld F hI 0 (show n < 100 by omega) rfl dX1_waits_25 ?_
    refine kstk (b := .ref a :: _) (by rw [ho]; rfl) ?_
    refine lv_astore_n (lv' := [(3, .ref _), (0, .ref _), (1, .int _), (2, .int _)]) hx hb dX1_waits_26 rfl hl (by decide) rfl (fun ls hl => ?_)
    refine lv_aload_n hx hb dX1_waits_27 rfl (lv_at hl 0 rfl) ?_
    refine lv_ifnonnull (tgt := 34) hx hb dX1_waits_28 (by decide) ?_
    refine lv_iload_n hx hb dX1_waits_34 rfl (lv_at hl 3 rfl) ?_
    refine lv_tableIn (off := 38) (tgt := 73) hx hb dX1_waits_35 (by decide) (by decide) (by decide) (by decide) ?_
    refine lv_aload_n hx hb dX1_waits_73 rfl (lv_at hl 0 rfl) ?_
    refine x_cget F hI ha 4 (by decide) rfl flX1_109 dX1_waits_74 ?_
    exact kret_i F hI dX1_waits_77 (⟨by simp [x_waits, ho, x_wval], rfl⟩)
  · have hl := hl
    refine lv_iload_n hx hb dX1_waits_0 rfl (lv_at hl 1 rfl) ?_
    refine lv_bipush (v := nI 100) hx hb dX1_waits_1 (by decide) ?_
    refine kcallS (rest := []) F hA hI (xc_isBelow l _ _ _) kgX1_52 hl.1 rfl rfl (Nat.le_of_ble_eq_true rfl) dX1_waits_3 ⟨Nat.le_of_ble_eq_true rfl, Nat.le_of_ble_eq_true rfl⟩ ⟨Nat.le_of_ble_eq_true rfl, Nat.le_of_ble_eq_true rfl⟩ (fun vq uq H locs hp hI => ?_)
    obtain ⟨rfl, hu⟩ := hp
    rw [hu] at hI
    clear hu
    refine kstk (b := .int _ :: []) rfl ?_
    refine lv_if_eq (tgt := 18) hx hb dX1_waits_6 (by decide) (fun c6 => absurd c6 ((fun q => by rw [bI_z, g1] at q; cases q))) (fun c6 => ?_)
    refine lv_iload_n hx hb dX1_waits_9 rfl (lv_at hl 2 rfl) ?_
    refine lv_bipush (v := nI 6) hx hb dX1_waits_10 (by decide) ?_
    refine kcallS (rest := []) F hA hI (xc_isBelow l _ _ _) kgX1_52 hl.1 rfl rfl (Nat.le_of_ble_eq_true rfl) dX1_waits_12 ⟨Nat.le_of_ble_eq_true rfl, Nat.le_of_ble_eq_true rfl⟩ ⟨Nat.le_of_ble_eq_true rfl, Nat.le_of_ble_eq_true rfl⟩ (fun vq uq H locs hp hI => ?_)
    obtain ⟨rfl, hu⟩ := hp
    rw [hu] at hI
    clear hu
    refine kstk (b := .int _ :: []) rfl ?_
    refine lv_if_ne (tgt := 20) hx hb dX1_waits_15 (by decide) (fun c15 => ?_) (fun c15 => absurd c15 ((fun q => by rw [bI_z, g2] at q; cases q)))
    refine lv_aload_n hx hb dX1_waits_20 rfl (lv_at hl 0 rfl) ?_
    refine x_get F hI 5 (by decide) rfl flX1_38 dX1_waits_21 ?_
    refine lv_iload_n hx hb dX1_waits_24 rfl (lv_at hl 1 rfl) ?_
    refine x_rld F hI 0 (show n < 100 by omega) rfl dX1_waits_25 ?_
    refine kstk (b := .ref a :: _) (by rw [ho]; rfl) ?_
    refine lv_astore_n (lv' := [(3, .ref _), (0, .ref _), (1, .int _), (2, .int _)]) hx hb dX1_waits_26 rfl hl (by decide) rfl (fun ls hl => ?_)
    refine lv_aload_n hx hb dX1_waits_27 rfl (lv_at hl 0 rfl) ?_
    refine lv_ifnonnull (tgt := 34) hx hb dX1_waits_28 (by decide) ?_
    refine lv_iload_n hx hb dX1_waits_34 rfl (lv_at hl 3 rfl) ?_
    refine lv_tableIn (off := 43) (tgt := 78) hx hb dX1_waits_35 (by decide) (by decide) (by decide) (by decide) ?_
    refine lv_aload_n hx hb dX1_waits_78 rfl (lv_at hl 0 rfl) ?_
    refine x_cget F hI ha 1 (by decide) rfl flX1_112 dX1_waits_79 ?_
    exact kret_i F hI dX1_waits_82 (⟨by simp [x_waits, ho, x_wval], rfl⟩)
  · have hl := hl
    refine lv_iload_n hx hb dX1_waits_0 rfl (lv_at hl 1 rfl) ?_
    refine lv_bipush (v := nI 100) hx hb dX1_waits_1 (by decide) ?_
    refine kcallS (rest := []) F hA hI (xc_isBelow l _ _ _) kgX1_52 hl.1 rfl rfl (Nat.le_of_ble_eq_true rfl) dX1_waits_3 ⟨Nat.le_of_ble_eq_true rfl, Nat.le_of_ble_eq_true rfl⟩ ⟨Nat.le_of_ble_eq_true rfl, Nat.le_of_ble_eq_true rfl⟩ (fun vq uq H locs hp hI => ?_)
    obtain ⟨rfl, hu⟩ := hp
    rw [hu] at hI
    clear hu
    refine kstk (b := .int _ :: []) rfl ?_
    refine lv_if_eq (tgt := 18) hx hb dX1_waits_6 (by decide) (fun c6 => absurd c6 ((fun q => by rw [bI_z, g1] at q; cases q))) (fun c6 => ?_)
    refine lv_iload_n hx hb dX1_waits_9 rfl (lv_at hl 2 rfl) ?_
    refine lv_bipush (v := nI 6) hx hb dX1_waits_10 (by decide) ?_
    refine kcallS (rest := []) F hA hI (xc_isBelow l _ _ _) kgX1_52 hl.1 rfl rfl (Nat.le_of_ble_eq_true rfl) dX1_waits_12 ⟨Nat.le_of_ble_eq_true rfl, Nat.le_of_ble_eq_true rfl⟩ ⟨Nat.le_of_ble_eq_true rfl, Nat.le_of_ble_eq_true rfl⟩ (fun vq uq H locs hp hI => ?_)
    obtain ⟨rfl, hu⟩ := hp
    rw [hu] at hI
    clear hu
    refine kstk (b := .int _ :: []) rfl ?_
    refine lv_if_ne (tgt := 20) hx hb dX1_waits_15 (by decide) (fun c15 => ?_) (fun c15 => absurd c15 ((fun q => by rw [bI_z, g2] at q; cases q)))
    refine lv_aload_n hx hb dX1_waits_20 rfl (lv_at hl 0 rfl) ?_
    refine x_get F hI 5 (by decide) rfl flX1_38 dX1_waits_21 ?_
    refine lv_iload_n hx hb dX1_waits_24 rfl (lv_at hl 1 rfl) ?_
    refine x_rld F hI 0 (show n < 100 by omega) rfl dX1_waits_25 ?_
    refine kstk (b := .ref a :: _) (by rw [ho]; rfl) ?_
    refine lv_astore_n (lv' := [(3, .ref _), (0, .ref _), (1, .int _), (2, .int _)]) hx hb dX1_waits_26 rfl hl (by decide) rfl (fun ls hl => ?_)
    refine lv_aload_n hx hb dX1_waits_27 rfl (lv_at hl 0 rfl) ?_
    refine lv_ifnonnull (tgt := 34) hx hb dX1_waits_28 (by decide) ?_
    refine lv_iload_n hx hb dX1_waits_34 rfl (lv_at hl 3 rfl) ?_
    refine lv_tableIn (off := 48) (tgt := 83) hx hb dX1_waits_35 (by decide) (by decide) (by decide) (by decide) ?_
    refine lv_aload_n hx hb dX1_waits_83 rfl (lv_at hl 0 rfl) ?_
    refine x_cget F hI ha 5 (by decide) rfl flX1_115 dX1_waits_84 ?_
    exact kret_i F hI dX1_waits_87 (⟨by simp [x_waits, ho, x_wval], rfl⟩)
  · have hl := hl
    refine lv_iload_n hx hb dX1_waits_0 rfl (lv_at hl 1 rfl) ?_
    refine lv_bipush (v := nI 100) hx hb dX1_waits_1 (by decide) ?_
    refine kcallS (rest := []) F hA hI (xc_isBelow l _ _ _) kgX1_52 hl.1 rfl rfl (Nat.le_of_ble_eq_true rfl) dX1_waits_3 ⟨Nat.le_of_ble_eq_true rfl, Nat.le_of_ble_eq_true rfl⟩ ⟨Nat.le_of_ble_eq_true rfl, Nat.le_of_ble_eq_true rfl⟩ (fun vq uq H locs hp hI => ?_)
    obtain ⟨rfl, hu⟩ := hp
    rw [hu] at hI
    clear hu
    refine kstk (b := .int _ :: []) rfl ?_
    refine lv_if_eq (tgt := 18) hx hb dX1_waits_6 (by decide) (fun c6 => absurd c6 ((fun q => by rw [bI_z, g1] at q; cases q))) (fun c6 => ?_)
    refine lv_iload_n hx hb dX1_waits_9 rfl (lv_at hl 2 rfl) ?_
    refine lv_bipush (v := nI 6) hx hb dX1_waits_10 (by decide) ?_
    refine kcallS (rest := []) F hA hI (xc_isBelow l _ _ _) kgX1_52 hl.1 rfl rfl (Nat.le_of_ble_eq_true rfl) dX1_waits_12 ⟨Nat.le_of_ble_eq_true rfl, Nat.le_of_ble_eq_true rfl⟩ ⟨Nat.le_of_ble_eq_true rfl, Nat.le_of_ble_eq_true rfl⟩ (fun vq uq H locs hp hI => ?_)
    obtain ⟨rfl, hu⟩ := hp
    rw [hu] at hI
    clear hu
    refine kstk (b := .int _ :: []) rfl ?_
    refine lv_if_ne (tgt := 20) hx hb dX1_waits_15 (by decide) (fun c15 => ?_) (fun c15 => absurd c15 ((fun q => by rw [bI_z, g2] at q; cases q)))
    refine lv_aload_n hx hb dX1_waits_20 rfl (lv_at hl 0 rfl) ?_
    refine x_get F hI 5 (by decide) rfl flX1_38 dX1_waits_21 ?_
    refine lv_iload_n hx hb dX1_waits_24 rfl (lv_at hl 1 rfl) ?_
    refine x_rld F hI 0 (show n < 100 by omega) rfl dX1_waits_25 ?_
    refine kstk (b := .ref a :: _) (by rw [ho]; rfl) ?_
    refine lv_astore_n (lv' := [(3, .ref _), (0, .ref _), (1, .int _), (2, .int _)]) hx hb dX1_waits_26 rfl hl (by decide) rfl (fun ls hl => ?_)
    refine lv_aload_n hx hb dX1_waits_27 rfl (lv_at hl 0 rfl) ?_
    refine lv_ifnonnull (tgt := 34) hx hb dX1_waits_28 (by decide) ?_
    refine lv_iload_n hx hb dX1_waits_34 rfl (lv_at hl 3 rfl) ?_
    refine lv_tableIn (off := 53) (tgt := 88) hx hb dX1_waits_35 (by decide) (by decide) (by decide) (by decide) ?_
    refine lv_aload_n hx hb dX1_waits_88 rfl (lv_at hl 0 rfl) ?_
    refine x_cget F hI ha 6 (by decide) rfl flX1_118 dX1_waits_89 ?_
    exact kret_i F hI dX1_waits_92 (⟨by simp [x_waits, ho, x_wval], rfl⟩)
  · have hl := hl
    refine lv_iload_n hx hb dX1_waits_0 rfl (lv_at hl 1 rfl) ?_
    refine lv_bipush (v := nI 100) hx hb dX1_waits_1 (by decide) ?_
    refine kcallS (rest := []) F hA hI (xc_isBelow l _ _ _) kgX1_52 hl.1 rfl rfl (Nat.le_of_ble_eq_true rfl) dX1_waits_3 ⟨Nat.le_of_ble_eq_true rfl, Nat.le_of_ble_eq_true rfl⟩ ⟨Nat.le_of_ble_eq_true rfl, Nat.le_of_ble_eq_true rfl⟩ (fun vq uq H locs hp hI => ?_)
    obtain ⟨rfl, hu⟩ := hp
    rw [hu] at hI
    clear hu
    refine kstk (b := .int _ :: []) rfl ?_
    refine lv_if_eq (tgt := 18) hx hb dX1_waits_6 (by decide) (fun c6 => absurd c6 ((fun q => by rw [bI_z, g1] at q; cases q))) (fun c6 => ?_)
    refine lv_iload_n hx hb dX1_waits_9 rfl (lv_at hl 2 rfl) ?_
    refine lv_bipush (v := nI 6) hx hb dX1_waits_10 (by decide) ?_
    refine kcallS (rest := []) F hA hI (xc_isBelow l _ _ _) kgX1_52 hl.1 rfl rfl (Nat.le_of_ble_eq_true rfl) dX1_waits_12 ⟨Nat.le_of_ble_eq_true rfl, Nat.le_of_ble_eq_true rfl⟩ ⟨Nat.le_of_ble_eq_true rfl, Nat.le_of_ble_eq_true rfl⟩ (fun vq uq H locs hp hI => ?_)
    obtain ⟨rfl, hu⟩ := hp
    rw [hu] at hI
    clear hu
    refine kstk (b := .int _ :: []) rfl ?_
    refine lv_if_ne (tgt := 20) hx hb dX1_waits_15 (by decide) (fun c15 => ?_) (fun c15 => absurd c15 ((fun q => by rw [bI_z, g2] at q; cases q)))
    refine lv_aload_n hx hb dX1_waits_20 rfl (lv_at hl 0 rfl) ?_
    refine x_get F hI 5 (by decide) rfl flX1_38 dX1_waits_21 ?_
    refine lv_iload_n hx hb dX1_waits_24 rfl (lv_at hl 1 rfl) ?_
    refine x_rld F hI 0 (show n < 100 by omega) rfl dX1_waits_25 ?_
    refine kstk (b := .ref a :: _) (by rw [ho]; rfl) ?_
    refine lv_astore_n (lv' := [(3, .ref _), (0, .ref _), (1, .int _), (2, .int _)]) hx hb dX1_waits_26 rfl hl (by decide) rfl (fun ls hl => ?_)
    refine lv_aload_n hx hb dX1_waits_27 rfl (lv_at hl 0 rfl) ?_
    refine lv_ifnonnull (tgt := 34) hx hb dX1_waits_28 (by decide) ?_
    refine lv_iload_n hx hb dX1_waits_34 rfl (lv_at hl 3 rfl) ?_
    refine lv_tableOut (tgt := 93) hx hb dX1_waits_35 (by decide) (by decide) ?_
    refine lv_aload_n hx hb dX1_waits_93 rfl (lv_at hl 1 rfl) ?_
    refine x_get F hI 2 (by decide) rfl flX1_25 dX1_waits_94 ?_
    refine lv_iconst (v := nI 0) hx hb dX1_waits_97 (by decide) ?_
    refine x_ald F hI 2 (show 0 < 13 by omega) rfl dX1_waits_98 ?_
    refine lv_aload_n hx hb dX1_waits_99 rfl (lv_at hl 0 rfl) ?_
    refine x_cget F hI ha 2 (by decide) rfl flX1_121 dX1_waits_100 ?_
    refine lv_isub hx hb dX1_waits_103 ?_
    exact kret_i F hI dX1_waits_104 (⟨by simp [x_waits, ho, x_wval], rfl⟩)
theorem xc_rem_bad (st : XS) (x : Int32) (h : decide (¬ x < 0 ∧ ¬ nI 100 ≤ x) = false) : kM l yX1_remembered cX1_remembered 3 (some .int) 1 22 0 0 D (xty K) (xw g K) [.ref (g 0), .int x] st (fun v u => v = some (.int (-1)) ∧ u = st) := by
  refine kM_intro (by decide) (Nat.le_of_ble_eq_true rfl) ?_
  intro p e s m below meth c A ls F hA hI hl
  obtain ⟨hx, hb, hr, hml, hown, hts, hlk, hK, hnm⟩ := id F
  have hl : lv_has ls 3 [(0, .ref (g 0)), (1, .int x)] := hl
  refine lv_iload_n hx hb dX1_remembered_0 rfl (lv_at hl 1 rfl) ?_
  refine lv_bipush (v := nI 100) hx hb dX1_remembered_1 (by decide) ?_
  refine kcallS (rest := []) F hA hI (xc_isBelow l _ _ _) kgX1_52 hl.1 rfl rfl (Nat.le_of_ble_eq_true rfl) dX1_remembered_3 ⟨Nat.le_of_ble_eq_true rfl, Nat.le_of_ble_eq_true rfl⟩ ⟨Nat.le_of_ble_eq_true rfl, Nat.le_of_ble_eq_true rfl⟩ (fun vq uq H locs hp hI => ?_)
  obtain ⟨rfl, hu⟩ := hp
  rw [hu] at hI
  clear hu
  refine kstk (b := .int _ :: []) rfl ?_
  refine lv_if_ne (tgt := 11) hx hb dX1_remembered_6 (by decide) (fun c6 => absurd c6 ((fun q => q (bI_z.mpr h)))) (fun c6 => ?_)
  refine lv_iconst (v := -1) hx hb dX1_remembered_9 (by decide) ?_
  exact kret_i F hI dX1_remembered_10 (⟨rfl, rfl⟩)
theorem x_recall_s {st : XS} {n a : Nat} (h : x_recall st n = some a) : st.2.1 1 n = some a := by
  unfold x_recall at h
  cases hd : st.2.1 1 n with
  | none => rw [hd] at h; cases h
  | some b =>
    rw [hd] at h
    dsimp only at h
    split at h
    · cases h; rfl
    · cases h
theorem xc_rem (st : XS) (n : Nat) (hn : n < 100) (hd : ∀ a, st.2.1 1 n = some a → a ∈ st.2.2.2.1) : kM l yX1_remembered cX1_remembered 3 (some .int) 1 22 0 0 D (xty K) (xw g K) [.ref (g 0), .int (nI n)] st (fun v u => v = some (.int (x_rem st n)) ∧ u = st) := by
  refine kM_intro (by decide) (Nat.le_of_ble_eq_true rfl) ?_
  intro p e s m below meth c A ls F hA hI hl
  obtain ⟨hx, hb, hr, hml, hown, hts, hlk, hK, hnm⟩ := id F
  have hl : lv_has ls 3 [(0, .ref (g 0)), (1, .int (nI n))] := hl
  have g1 := isB_t (show n < 100 by omega) (by decide)
  rcases ho : x_recall st n with _ | a
  · have hl := hl
    refine lv_iload_n hx hb dX1_remembered_0 rfl (lv_at hl 1 rfl) ?_
    refine lv_bipush (v := nI 100) hx hb dX1_remembered_1 (by decide) ?_
    refine kcallS (rest := []) F hA hI (xc_isBelow l _ _ _) kgX1_52 hl.1 rfl rfl (Nat.le_of_ble_eq_true rfl) dX1_remembered_3 ⟨Nat.le_of_ble_eq_true rfl, Nat.le_of_ble_eq_true rfl⟩ ⟨Nat.le_of_ble_eq_true rfl, Nat.le_of_ble_eq_true rfl⟩ (fun vq uq H locs hp hI => ?_)
    obtain ⟨rfl, hu⟩ := hp
    rw [hu] at hI
    clear hu
    refine kstk (b := .int _ :: []) rfl ?_
    refine lv_if_ne (tgt := 11) hx hb dX1_remembered_6 (by decide) (fun c6 => ?_) (fun c6 => absurd c6 ((fun q => by rw [bI_z, g1] at q; cases q)))
    refine lv_aload_n hx hb dX1_remembered_11 rfl (lv_at hl 0 rfl) ?_
    refine lv_iload_n hx hb dX1_remembered_12 rfl (lv_at hl 1 rfl) ?_
    refine kcallV (rest := []) F hA hI (xc_recall l _ n hn hd) kgX1_88 (x_rec F hI) hl.1 rfl rfl (Nat.le_of_ble_eq_true rfl) dX1_remembered_13 ⟨Nat.le_of_ble_eq_true rfl, Nat.le_of_ble_eq_true rfl⟩ ⟨Nat.le_of_ble_eq_true rfl, Nat.le_of_ble_eq_true rfl⟩ (fun vq uq H locs hp hI => ?_)
    obtain ⟨rfl, hu⟩ := hp
    rw [hu] at hI
    clear hu
    refine kstk (b := .null :: []) (by rw [ho]; rfl) ?_
    refine lv_astore_nN (lv' := [(2, .null), (0, .ref _), (1, .int _)]) hx hb dX1_remembered_16 rfl hl (by decide) rfl (fun ls hl => ?_)
    refine lv_aload_nN hx hb dX1_remembered_17 rfl (lv_at hl 0 rfl) ?_
    refine lv_ifnonnullN hx hb dX1_remembered_18 ?_
    refine lv_bipush (v := -9) hx hb dX1_remembered_21 (by decide) ?_
    exact kret_i F hI dX1_remembered_23 (⟨by simp [x_rem, ho], rfl⟩)
  · have ha := hd a (x_recall_s ho)
    refine lv_iload_n hx hb dX1_remembered_0 rfl (lv_at hl 1 rfl) ?_
    refine lv_bipush (v := nI 100) hx hb dX1_remembered_1 (by decide) ?_
    refine kcallS (rest := []) F hA hI (xc_isBelow l _ _ _) kgX1_52 hl.1 rfl rfl (Nat.le_of_ble_eq_true rfl) dX1_remembered_3 ⟨Nat.le_of_ble_eq_true rfl, Nat.le_of_ble_eq_true rfl⟩ ⟨Nat.le_of_ble_eq_true rfl, Nat.le_of_ble_eq_true rfl⟩ (fun vq uq H locs hp hI => ?_)
    obtain ⟨rfl, hu⟩ := hp
    rw [hu] at hI
    clear hu
    refine kstk (b := .int _ :: []) rfl ?_
    refine lv_if_ne (tgt := 11) hx hb dX1_remembered_6 (by decide) (fun c6 => ?_) (fun c6 => absurd c6 ((fun q => by rw [bI_z, g1] at q; cases q)))
    refine lv_aload_n hx hb dX1_remembered_11 rfl (lv_at hl 0 rfl) ?_
    refine lv_iload_n hx hb dX1_remembered_12 rfl (lv_at hl 1 rfl) ?_
    refine kcallV (rest := []) F hA hI (xc_recall l _ n hn hd) kgX1_88 (x_rec F hI) hl.1 rfl rfl (Nat.le_of_ble_eq_true rfl) dX1_remembered_13 ⟨Nat.le_of_ble_eq_true rfl, Nat.le_of_ble_eq_true rfl⟩ ⟨Nat.le_of_ble_eq_true rfl, Nat.le_of_ble_eq_true rfl⟩ (fun vq uq H locs hp hI => ?_)
    obtain ⟨rfl, hu⟩ := hp
    rw [hu] at hI
    clear hu
    refine kstk (b := .ref a :: []) (by rw [ho]; rfl) ?_
    refine lv_astore_n (lv' := [(2, .ref _), (0, .ref _), (1, .int _)]) hx hb dX1_remembered_16 rfl hl (by decide) rfl (fun ls hl => ?_)
    refine lv_aload_n hx hb dX1_remembered_17 rfl (lv_at hl 0 rfl) ?_
    refine lv_ifnonnull (tgt := 24) hx hb dX1_remembered_18 (by decide) ?_
    refine lv_aload_n hx hb dX1_remembered_24 rfl (lv_at hl 0 rfl) ?_
    refine x_cget F hI ha 10 (by decide) rfl flX1_124 dX1_remembered_25 ?_
    refine lv_if_eq (tgt := 35) hx hb dX1_remembered_28 (by decide) (fun c28 => ?_) (fun c28 => ?_)
    ·
      refine lv_iconst (v := nI 0) hx hb dX1_remembered_35 (by decide) ?_
      exact kret_i F hI dX1_remembered_36 (⟨by simp [x_rem, ho, c28], rfl⟩)
    ·
      refine lv_iconst (v := nI 1) hx hb dX1_remembered_31 (by decide) ?_
      refine lv_goto (tgt := 36) hx hb dX1_remembered_32 (by decide) ?_
      exact kret_i F hI dX1_remembered_36 (⟨by simp [x_rem, ho, c28], rfl⟩)
theorem xc_keptAt (st : XS) (x : Int32) : kM l yX1_keptAt cX1_keptAt 2 (some (.object "CallKeepers$Call")) 1 21 0 0 D (xty K) (xw g K) [.ref (g 0), .int x] st (fun v u => v = some (va_rf (x_kat st x)) ∧ u = st) := by
  refine kM_intro (by decide) (Nat.le_of_ble_eq_true rfl) ?_
  intro p e s m below meth c A ls F hA hI hl
  obtain ⟨hx, hb, hr, hml, hown, hts, hlk, hK, hnm⟩ := id F
  have hl : lv_has ls 2 [(0, .ref (g 0)), (1, .int x)] := hl
  by_cases h : decide (¬ x < 0 ∧ ¬ nI 20 ≤ x) = true
  · obtain ⟨i, hi, rfl⟩ := isB_n (by decide) h
    refine lv_iload_n hx hb dX1_keptAt_0 rfl (lv_at hl 1 rfl) ?_
    refine lv_bipush (v := nI 20) hx hb dX1_keptAt_1 (by decide) ?_
    refine kcallS (rest := []) F hA hI (xc_isBelow l _ _ _) kgX1_52 hl.1 rfl rfl (Nat.le_of_ble_eq_true rfl) dX1_keptAt_3 ⟨Nat.le_of_ble_eq_true rfl, Nat.le_of_ble_eq_true rfl⟩ ⟨Nat.le_of_ble_eq_true rfl, Nat.le_of_ble_eq_true rfl⟩ (fun vq uq H locs hp hI => ?_)
    obtain ⟨rfl, hu⟩ := hp
    rw [hu] at hI
    clear hu
    refine kstk (b := .int _ :: []) rfl ?_
    refine lv_if_eq (tgt := 18) hx hb dX1_keptAt_6 (by decide) (fun c6 => absurd c6 ((fun q => by rw [bI_z, h] at q; cases q))) (fun c6 => ?_)
    refine lv_aload_n hx hb dX1_keptAt_9 rfl (lv_at hl 0 rfl) ?_
    refine x_get F hI 7 (by decide) rfl flX1_45 dX1_keptAt_10 ?_
    refine lv_iload_n hx hb dX1_keptAt_13 rfl (lv_at hl 1 rfl) ?_
    refine x_rld F hI 2 (show i < 20 by omega) rfl dX1_keptAt_14 ?_
    refine lv_goto (tgt := 19) hx hb dX1_keptAt_15 (by decide) ?_
    exact kret_q (r := (st.2.1 2 i)) F hI dX1_keptAt_19 (⟨by rw [x_kat_n st hi], rfl⟩)
  · have h2 : decide (¬ x < 0 ∧ ¬ nI 20 ≤ x) = false := by simpa using h
    refine lv_iload_n hx hb dX1_keptAt_0 rfl (lv_at hl 1 rfl) ?_
    refine lv_bipush (v := nI 20) hx hb dX1_keptAt_1 (by decide) ?_
    refine kcallS (rest := []) F hA hI (xc_isBelow l _ _ _) kgX1_52 hl.1 rfl rfl (Nat.le_of_ble_eq_true rfl) dX1_keptAt_3 ⟨Nat.le_of_ble_eq_true rfl, Nat.le_of_ble_eq_true rfl⟩ ⟨Nat.le_of_ble_eq_true rfl, Nat.le_of_ble_eq_true rfl⟩ (fun vq uq H locs hp hI => ?_)
    obtain ⟨rfl, hu⟩ := hp
    rw [hu] at hI
    clear hu
    refine kstk (b := .int _ :: []) rfl ?_
    refine lv_if_eq (tgt := 18) hx hb dX1_keptAt_6 (by decide) (fun c6 => ?_) (fun c6 => absurd c6 ((fun q => q (bI_z.mpr h2))))
    refine lv_null hx hb dX1_keptAt_18 ?_
    exact kret_q (r := none) F hI dX1_keptAt_19 (⟨by rw [x_kat, if_neg h], rfl⟩)
theorem xc_kept_bad (st : XS) (x w : Int32) (h : x_kat st x = none ∨ decide (¬ w < 0 ∧ ¬ nI 7 ≤ w) = false) : kM l yX1_kept cX1_kept 4 (some .int) 2 42 0 0 D (xty K) (xw g K) [.ref (g 0), .int x, .int w] st (fun v u => v = some (.int (-1)) ∧ u = st) := by
  refine kM_intro (by decide) (Nat.le_of_ble_eq_true rfl) ?_
  intro p e s m below meth c A ls F hA hI hl
  obtain ⟨hx, hb, hr, hml, hown, hts, hlk, hK, hnm⟩ := id F
  have hl : lv_has ls 4 [(0, .ref (g 0)), (1, .int x), (2, .int w)] := hl
  rcases ho : x_kat st x with _ | a
  · have hl := hl
    refine lv_aload_n hx hb dX1_kept_0 rfl (lv_at hl 0 rfl) ?_
    refine lv_iload_n hx hb dX1_kept_1 rfl (lv_at hl 1 rfl) ?_
    refine kcallV (rest := []) F hA hI (xc_keptAt l _ _) kgX1_128 (x_rec F hI) hl.1 rfl rfl (Nat.le_of_ble_eq_true rfl) dX1_kept_2 ⟨Nat.le_of_ble_eq_true rfl, Nat.le_of_ble_eq_true rfl⟩ ⟨Nat.le_of_ble_eq_true rfl, Nat.le_of_ble_eq_true rfl⟩ (fun vq uq H locs hp hI => ?_)
    obtain ⟨rfl, hu⟩ := hp
    rw [hu] at hI
    clear hu
    refine kstk (b := .null :: []) (by rw [ho]; rfl) ?_
    refine lv_astore_nN (lv' := [(3, .null), (0, .ref _), (1, .int _), (2, .int _)]) hx hb dX1_kept_5 rfl hl (by decide) rfl (fun ls hl => ?_)
    refine lv_aload_nN hx hb dX1_kept_6 rfl (lv_at hl 0 rfl) ?_
    refine lv_ifnullN (tgt := 19) hx hb dX1_kept_7 (by decide) ?_
    refine lv_iconst (v := -1) hx hb dX1_kept_19 (by decide) ?_
    exact kret_i F hI dX1_kept_20 (⟨rfl, rfl⟩)
  · have h2 := h.resolve_left (by rw [ho]; exact fun q => by cases q)
    refine lv_aload_n hx hb dX1_kept_0 rfl (lv_at hl 0 rfl) ?_
    refine lv_iload_n hx hb dX1_kept_1 rfl (lv_at hl 1 rfl) ?_
    refine kcallV (rest := []) F hA hI (xc_keptAt l _ _) kgX1_128 (x_rec F hI) hl.1 rfl rfl (Nat.le_of_ble_eq_true rfl) dX1_kept_2 ⟨Nat.le_of_ble_eq_true rfl, Nat.le_of_ble_eq_true rfl⟩ ⟨Nat.le_of_ble_eq_true rfl, Nat.le_of_ble_eq_true rfl⟩ (fun vq uq H locs hp hI => ?_)
    obtain ⟨rfl, hu⟩ := hp
    rw [hu] at hI
    clear hu
    refine kstk (b := .ref a :: []) (by rw [ho]; rfl) ?_
    refine lv_astore_n (lv' := [(3, .ref _), (0, .ref _), (1, .int _), (2, .int _)]) hx hb dX1_kept_5 rfl hl (by decide) rfl (fun ls hl => ?_)
    refine lv_aload_n hx hb dX1_kept_6 rfl (lv_at hl 0 rfl) ?_
    refine lv_ifnull hx hb dX1_kept_7 ?_
    refine lv_iload_n hx hb dX1_kept_10 rfl (lv_at hl 3 rfl) ?_
    refine lv_bipush (v := nI 7) hx hb dX1_kept_11 (by decide) ?_
    refine kcallS (rest := []) F hA hI (xc_isBelow l _ _ _) kgX1_52 hl.1 rfl rfl (Nat.le_of_ble_eq_true rfl) dX1_kept_13 ⟨Nat.le_of_ble_eq_true rfl, Nat.le_of_ble_eq_true rfl⟩ ⟨Nat.le_of_ble_eq_true rfl, Nat.le_of_ble_eq_true rfl⟩ (fun vq uq H locs hp hI => ?_)
    obtain ⟨rfl, hu⟩ := hp
    rw [hu] at hI
    clear hu
    refine kstk (b := .int _ :: []) rfl ?_
    refine lv_if_ne (tgt := 21) hx hb dX1_kept_16 (by decide) (fun c16 => absurd c16 ((fun q => q (bI_z.mpr h2)))) (fun c16 => ?_)
    refine lv_iconst (v := -1) hx hb dX1_kept_19 (by decide) ?_
    exact kret_i F hI dX1_kept_20 (⟨rfl, rfl⟩)
theorem xc_kept (st : XS) (x : Int32) (a w : Nat) (ho : x_kat st x = some a) (ha : a ∈ st.2.2.2.1) (hw : w < 7) : kM l yX1_kept cX1_kept 4 (some .int) 2 42 0 0 D (xty K) (xw g K) [.ref (g 0), .int x, .int (nI w)] st (fun v u => v = some (.int (x_kval st a w)) ∧ u = st) := by
  refine kM_intro (by decide) (Nat.le_of_ble_eq_true rfl) ?_
  intro p e s m below meth c A ls F hA hI hl
  obtain ⟨hx, hb, hr, hml, hown, hts, hlk, hK, hnm⟩ := id F
  have hl : lv_has ls 4 [(0, .ref (g 0)), (1, .int x), (2, .int (nI w))] := hl
  have g2 := isB_t (show w < 7 by omega) (by decide)
  rcases (show w = 0 ∨ w = 1 ∨ w = 2 ∨ w = 3 ∨ w = 4 ∨ w = 5 ∨ w = 6 by omega) with rfl | rfl | rfl | rfl | rfl | rfl | rfl
  · have hl := hl
    refine lv_aload_n hx hb dX1_kept_0 rfl (lv_at hl 0 rfl) ?_
    refine lv_iload_n hx hb dX1_kept_1 rfl (lv_at hl 1 rfl) ?_
    refine kcallV (rest := []) F hA hI (xc_keptAt l _ _) kgX1_128 (x_rec F hI) hl.1 rfl rfl (Nat.le_of_ble_eq_true rfl) dX1_kept_2 ⟨Nat.le_of_ble_eq_true rfl, Nat.le_of_ble_eq_true rfl⟩ ⟨Nat.le_of_ble_eq_true rfl, Nat.le_of_ble_eq_true rfl⟩ (fun vq uq H locs hp hI => ?_)
    obtain ⟨rfl, hu⟩ := hp
    rw [hu] at hI
    clear hu
    refine kstk (b := .ref a :: []) (by rw [ho]; rfl) ?_
    refine lv_astore_n (lv' := [(3, .ref _), (0, .ref _), (1, .int _), (2, .int _)]) hx hb dX1_kept_5 rfl hl (by decide) rfl (fun ls hl => ?_)
    refine lv_aload_n hx hb dX1_kept_6 rfl (lv_at hl 0 rfl) ?_
    refine lv_ifnull hx hb dX1_kept_7 ?_
    refine lv_iload_n hx hb dX1_kept_10 rfl (lv_at hl 3 rfl) ?_
    refine lv_bipush (v := nI 7) hx hb dX1_kept_11 (by decide) ?_
    refine kcallS (rest := []) F hA hI (xc_isBelow l _ _ _) kgX1_52 hl.1 rfl rfl (Nat.le_of_ble_eq_true rfl) dX1_kept_13 ⟨Nat.le_of_ble_eq_true rfl, Nat.le_of_ble_eq_true rfl⟩ ⟨Nat.le_of_ble_eq_true rfl, Nat.le_of_ble_eq_true rfl⟩ (fun vq uq H locs hp hI => ?_)
    obtain ⟨rfl, hu⟩ := hp
    rw [hu] at hI
    clear hu
    refine kstk (b := .int _ :: []) rfl ?_
    refine lv_if_ne (tgt := 21) hx hb dX1_kept_16 (by decide) (fun c16 => ?_) (fun c16 => absurd c16 ((fun q => by rw [bI_z, g2] at q; cases q)))
    refine lv_iload_n hx hb dX1_kept_21 rfl (lv_at hl 3 rfl) ?_
    refine lv_tableIn (off := 38) (tgt := 60) hx hb dX1_kept_22 (by decide) (by decide) (by decide) (by decide) ?_
    refine lv_aload_n hx hb dX1_kept_60 rfl (lv_at hl 0 rfl) ?_
    refine x_cget F hI ha 0 (by decide) rfl flX1_131 dX1_kept_61 ?_
    exact kret_i F hI dX1_kept_64 (⟨by simp [x_kval], rfl⟩)
  · have hl := hl
    refine lv_aload_n hx hb dX1_kept_0 rfl (lv_at hl 0 rfl) ?_
    refine lv_iload_n hx hb dX1_kept_1 rfl (lv_at hl 1 rfl) ?_
    refine kcallV (rest := []) F hA hI (xc_keptAt l _ _) kgX1_128 (x_rec F hI) hl.1 rfl rfl (Nat.le_of_ble_eq_true rfl) dX1_kept_2 ⟨Nat.le_of_ble_eq_true rfl, Nat.le_of_ble_eq_true rfl⟩ ⟨Nat.le_of_ble_eq_true rfl, Nat.le_of_ble_eq_true rfl⟩ (fun vq uq H locs hp hI => ?_)
    obtain ⟨rfl, hu⟩ := hp
    rw [hu] at hI
    clear hu
    refine kstk (b := .ref a :: []) (by rw [ho]; rfl) ?_
    refine lv_astore_n (lv' := [(3, .ref _), (0, .ref _), (1, .int _), (2, .int _)]) hx hb dX1_kept_5 rfl hl (by decide) rfl (fun ls hl => ?_)
    refine lv_aload_n hx hb dX1_kept_6 rfl (lv_at hl 0 rfl) ?_
    refine lv_ifnull hx hb dX1_kept_7 ?_
    refine lv_iload_n hx hb dX1_kept_10 rfl (lv_at hl 3 rfl) ?_
    refine lv_bipush (v := nI 7) hx hb dX1_kept_11 (by decide) ?_
    refine kcallS (rest := []) F hA hI (xc_isBelow l _ _ _) kgX1_52 hl.1 rfl rfl (Nat.le_of_ble_eq_true rfl) dX1_kept_13 ⟨Nat.le_of_ble_eq_true rfl, Nat.le_of_ble_eq_true rfl⟩ ⟨Nat.le_of_ble_eq_true rfl, Nat.le_of_ble_eq_true rfl⟩ (fun vq uq H locs hp hI => ?_)
    obtain ⟨rfl, hu⟩ := hp
    rw [hu] at hI
    clear hu
    refine kstk (b := .int _ :: []) rfl ?_
    refine lv_if_ne (tgt := 21) hx hb dX1_kept_16 (by decide) (fun c16 => ?_) (fun c16 => absurd c16 ((fun q => by rw [bI_z, g2] at q; cases q)))
    refine lv_iload_n hx hb dX1_kept_21 rfl (lv_at hl 3 rfl) ?_
    refine lv_tableIn (off := 43) (tgt := 65) hx hb dX1_kept_22 (by decide) (by decide) (by decide) (by decide) ?_
    refine lv_aload_n hx hb dX1_kept_65 rfl (lv_at hl 0 rfl) ?_
    refine x_cget F hI ha 4 (by decide) rfl flX1_109 dX1_kept_66 ?_
    exact kret_i F hI dX1_kept_69 (⟨by simp [x_kval], rfl⟩)
  · have hl := hl
    refine lv_aload_n hx hb dX1_kept_0 rfl (lv_at hl 0 rfl) ?_
    refine lv_iload_n hx hb dX1_kept_1 rfl (lv_at hl 1 rfl) ?_
    refine kcallV (rest := []) F hA hI (xc_keptAt l _ _) kgX1_128 (x_rec F hI) hl.1 rfl rfl (Nat.le_of_ble_eq_true rfl) dX1_kept_2 ⟨Nat.le_of_ble_eq_true rfl, Nat.le_of_ble_eq_true rfl⟩ ⟨Nat.le_of_ble_eq_true rfl, Nat.le_of_ble_eq_true rfl⟩ (fun vq uq H locs hp hI => ?_)
    obtain ⟨rfl, hu⟩ := hp
    rw [hu] at hI
    clear hu
    refine kstk (b := .ref a :: []) (by rw [ho]; rfl) ?_
    refine lv_astore_n (lv' := [(3, .ref _), (0, .ref _), (1, .int _), (2, .int _)]) hx hb dX1_kept_5 rfl hl (by decide) rfl (fun ls hl => ?_)
    refine lv_aload_n hx hb dX1_kept_6 rfl (lv_at hl 0 rfl) ?_
    refine lv_ifnull hx hb dX1_kept_7 ?_
    refine lv_iload_n hx hb dX1_kept_10 rfl (lv_at hl 3 rfl) ?_
    refine lv_bipush (v := nI 7) hx hb dX1_kept_11 (by decide) ?_
    refine kcallS (rest := []) F hA hI (xc_isBelow l _ _ _) kgX1_52 hl.1 rfl rfl (Nat.le_of_ble_eq_true rfl) dX1_kept_13 ⟨Nat.le_of_ble_eq_true rfl, Nat.le_of_ble_eq_true rfl⟩ ⟨Nat.le_of_ble_eq_true rfl, Nat.le_of_ble_eq_true rfl⟩ (fun vq uq H locs hp hI => ?_)
    obtain ⟨rfl, hu⟩ := hp
    rw [hu] at hI
    clear hu
    refine kstk (b := .int _ :: []) rfl ?_
    refine lv_if_ne (tgt := 21) hx hb dX1_kept_16 (by decide) (fun c16 => ?_) (fun c16 => absurd c16 ((fun q => by rw [bI_z, g2] at q; cases q)))
    refine lv_iload_n hx hb dX1_kept_21 rfl (lv_at hl 3 rfl) ?_
    refine lv_tableIn (off := 48) (tgt := 70) hx hb dX1_kept_22 (by decide) (by decide) (by decide) (by decide) ?_
    refine lv_aload_n hx hb dX1_kept_70 rfl (lv_at hl 0 rfl) ?_
    refine x_cget F hI ha 1 (by decide) rfl flX1_112 dX1_kept_71 ?_
    exact kret_i F hI dX1_kept_74 (⟨by simp [x_kval], rfl⟩)
  · have hl := hl
    refine lv_aload_n hx hb dX1_kept_0 rfl (lv_at hl 0 rfl) ?_
    refine lv_iload_n hx hb dX1_kept_1 rfl (lv_at hl 1 rfl) ?_
    refine kcallV (rest := []) F hA hI (xc_keptAt l _ _) kgX1_128 (x_rec F hI) hl.1 rfl rfl (Nat.le_of_ble_eq_true rfl) dX1_kept_2 ⟨Nat.le_of_ble_eq_true rfl, Nat.le_of_ble_eq_true rfl⟩ ⟨Nat.le_of_ble_eq_true rfl, Nat.le_of_ble_eq_true rfl⟩ (fun vq uq H locs hp hI => ?_)
    obtain ⟨rfl, hu⟩ := hp
    rw [hu] at hI
    clear hu
    refine kstk (b := .ref a :: []) (by rw [ho]; rfl) ?_
    refine lv_astore_n (lv' := [(3, .ref _), (0, .ref _), (1, .int _), (2, .int _)]) hx hb dX1_kept_5 rfl hl (by decide) rfl (fun ls hl => ?_)
    refine lv_aload_n hx hb dX1_kept_6 rfl (lv_at hl 0 rfl) ?_
    refine lv_ifnull hx hb dX1_kept_7 ?_
    refine lv_iload_n hx hb dX1_kept_10 rfl (lv_at hl 3 rfl) ?_
    refine lv_bipush (v := nI 7) hx hb dX1_kept_11 (by decide) ?_
    refine kcallS (rest := []) F hA hI (xc_isBelow l _ _ _) kgX1_52 hl.1 rfl rfl (Nat.le_of_ble_eq_true rfl) dX1_kept_13 ⟨Nat.le_of_ble_eq_true rfl, Nat.le_of_ble_eq_true rfl⟩ ⟨Nat.le_of_ble_eq_true rfl, Nat.le_of_ble_eq_true rfl⟩ (fun vq uq H locs hp hI => ?_)
    obtain ⟨rfl, hu⟩ := hp
    rw [hu] at hI
    clear hu
    refine kstk (b := .int _ :: []) rfl ?_
    refine lv_if_ne (tgt := 21) hx hb dX1_kept_16 (by decide) (fun c16 => ?_) (fun c16 => absurd c16 ((fun q => by rw [bI_z, g2] at q; cases q)))
    refine lv_iload_n hx hb dX1_kept_21 rfl (lv_at hl 3 rfl) ?_
    refine lv_tableIn (off := 53) (tgt := 75) hx hb dX1_kept_22 (by decide) (by decide) (by decide) (by decide) ?_
    refine lv_aload_n hx hb dX1_kept_75 rfl (lv_at hl 0 rfl) ?_
    refine x_cget F hI ha 5 (by decide) rfl flX1_115 dX1_kept_76 ?_
    exact kret_i F hI dX1_kept_79 (⟨by simp [x_kval], rfl⟩)
  · have hl := hl
    refine lv_aload_n hx hb dX1_kept_0 rfl (lv_at hl 0 rfl) ?_
    refine lv_iload_n hx hb dX1_kept_1 rfl (lv_at hl 1 rfl) ?_
    refine kcallV (rest := []) F hA hI (xc_keptAt l _ _) kgX1_128 (x_rec F hI) hl.1 rfl rfl (Nat.le_of_ble_eq_true rfl) dX1_kept_2 ⟨Nat.le_of_ble_eq_true rfl, Nat.le_of_ble_eq_true rfl⟩ ⟨Nat.le_of_ble_eq_true rfl, Nat.le_of_ble_eq_true rfl⟩ (fun vq uq H locs hp hI => ?_)
    obtain ⟨rfl, hu⟩ := hp
    rw [hu] at hI
    clear hu
    refine kstk (b := .ref a :: []) (by rw [ho]; rfl) ?_
    refine lv_astore_n (lv' := [(3, .ref _), (0, .ref _), (1, .int _), (2, .int _)]) hx hb dX1_kept_5 rfl hl (by decide) rfl (fun ls hl => ?_)
    refine lv_aload_n hx hb dX1_kept_6 rfl (lv_at hl 0 rfl) ?_
    refine lv_ifnull hx hb dX1_kept_7 ?_
    refine lv_iload_n hx hb dX1_kept_10 rfl (lv_at hl 3 rfl) ?_
    refine lv_bipush (v := nI 7) hx hb dX1_kept_11 (by decide) ?_
    refine kcallS (rest := []) F hA hI (xc_isBelow l _ _ _) kgX1_52 hl.1 rfl rfl (Nat.le_of_ble_eq_true rfl) dX1_kept_13 ⟨Nat.le_of_ble_eq_true rfl, Nat.le_of_ble_eq_true rfl⟩ ⟨Nat.le_of_ble_eq_true rfl, Nat.le_of_ble_eq_true rfl⟩ (fun vq uq H locs hp hI => ?_)
    obtain ⟨rfl, hu⟩ := hp
    rw [hu] at hI
    clear hu
    refine kstk (b := .int _ :: []) rfl ?_
    refine lv_if_ne (tgt := 21) hx hb dX1_kept_16 (by decide) (fun c16 => ?_) (fun c16 => absurd c16 ((fun q => by rw [bI_z, g2] at q; cases q)))
    refine lv_iload_n hx hb dX1_kept_21 rfl (lv_at hl 3 rfl) ?_
    refine lv_tableIn (off := 58) (tgt := 80) hx hb dX1_kept_22 (by decide) (by decide) (by decide) (by decide) ?_
    refine lv_aload_n hx hb dX1_kept_80 rfl (lv_at hl 0 rfl) ?_
    refine x_cget F hI ha 8 (by decide) rfl flX1_134 dX1_kept_81 ?_
    exact kret_i F hI dX1_kept_84 (⟨by simp [x_kval], rfl⟩)
  · have hl := hl
    refine lv_aload_n hx hb dX1_kept_0 rfl (lv_at hl 0 rfl) ?_
    refine lv_iload_n hx hb dX1_kept_1 rfl (lv_at hl 1 rfl) ?_
    refine kcallV (rest := []) F hA hI (xc_keptAt l _ _) kgX1_128 (x_rec F hI) hl.1 rfl rfl (Nat.le_of_ble_eq_true rfl) dX1_kept_2 ⟨Nat.le_of_ble_eq_true rfl, Nat.le_of_ble_eq_true rfl⟩ ⟨Nat.le_of_ble_eq_true rfl, Nat.le_of_ble_eq_true rfl⟩ (fun vq uq H locs hp hI => ?_)
    obtain ⟨rfl, hu⟩ := hp
    rw [hu] at hI
    clear hu
    refine kstk (b := .ref a :: []) (by rw [ho]; rfl) ?_
    refine lv_astore_n (lv' := [(3, .ref _), (0, .ref _), (1, .int _), (2, .int _)]) hx hb dX1_kept_5 rfl hl (by decide) rfl (fun ls hl => ?_)
    refine lv_aload_n hx hb dX1_kept_6 rfl (lv_at hl 0 rfl) ?_
    refine lv_ifnull hx hb dX1_kept_7 ?_
    refine lv_iload_n hx hb dX1_kept_10 rfl (lv_at hl 3 rfl) ?_
    refine lv_bipush (v := nI 7) hx hb dX1_kept_11 (by decide) ?_
    refine kcallS (rest := []) F hA hI (xc_isBelow l _ _ _) kgX1_52 hl.1 rfl rfl (Nat.le_of_ble_eq_true rfl) dX1_kept_13 ⟨Nat.le_of_ble_eq_true rfl, Nat.le_of_ble_eq_true rfl⟩ ⟨Nat.le_of_ble_eq_true rfl, Nat.le_of_ble_eq_true rfl⟩ (fun vq uq H locs hp hI => ?_)
    obtain ⟨rfl, hu⟩ := hp
    rw [hu] at hI
    clear hu
    refine kstk (b := .int _ :: []) rfl ?_
    refine lv_if_ne (tgt := 21) hx hb dX1_kept_16 (by decide) (fun c16 => ?_) (fun c16 => absurd c16 ((fun q => by rw [bI_z, g2] at q; cases q)))
    refine lv_iload_n hx hb dX1_kept_21 rfl (lv_at hl 3 rfl) ?_
    refine lv_tableIn (off := 63) (tgt := 85) hx hb dX1_kept_22 (by decide) (by decide) (by decide) (by decide) ?_
    refine lv_aload_n hx hb dX1_kept_85 rfl (lv_at hl 0 rfl) ?_
    refine x_cget F hI ha 9 (by decide) rfl flX1_137 dX1_kept_86 ?_
    refine lv_if_eq (tgt := 96) hx hb dX1_kept_89 (by decide) (fun c89 => ?_) (fun c89 => ?_)
    ·
      refine lv_iconst (v := nI 0) hx hb dX1_kept_96 (by decide) ?_
      exact kret_i F hI dX1_kept_97 (⟨by simp [x_kval, c89], rfl⟩)
    ·
      refine lv_iconst (v := nI 1) hx hb dX1_kept_92 (by decide) ?_
      refine lv_goto (tgt := 97) hx hb dX1_kept_93 (by decide) ?_
      exact kret_i F hI dX1_kept_97 (⟨by simp [x_kval, c89], rfl⟩)
  · have hl := hl
    refine lv_aload_n hx hb dX1_kept_0 rfl (lv_at hl 0 rfl) ?_
    refine lv_iload_n hx hb dX1_kept_1 rfl (lv_at hl 1 rfl) ?_
    refine kcallV (rest := []) F hA hI (xc_keptAt l _ _) kgX1_128 (x_rec F hI) hl.1 rfl rfl (Nat.le_of_ble_eq_true rfl) dX1_kept_2 ⟨Nat.le_of_ble_eq_true rfl, Nat.le_of_ble_eq_true rfl⟩ ⟨Nat.le_of_ble_eq_true rfl, Nat.le_of_ble_eq_true rfl⟩ (fun vq uq H locs hp hI => ?_)
    obtain ⟨rfl, hu⟩ := hp
    rw [hu] at hI
    clear hu
    refine kstk (b := .ref a :: []) (by rw [ho]; rfl) ?_
    refine lv_astore_n (lv' := [(3, .ref _), (0, .ref _), (1, .int _), (2, .int _)]) hx hb dX1_kept_5 rfl hl (by decide) rfl (fun ls hl => ?_)
    refine lv_aload_n hx hb dX1_kept_6 rfl (lv_at hl 0 rfl) ?_
    refine lv_ifnull hx hb dX1_kept_7 ?_
    refine lv_iload_n hx hb dX1_kept_10 rfl (lv_at hl 3 rfl) ?_
    refine lv_bipush (v := nI 7) hx hb dX1_kept_11 (by decide) ?_
    refine kcallS (rest := []) F hA hI (xc_isBelow l _ _ _) kgX1_52 hl.1 rfl rfl (Nat.le_of_ble_eq_true rfl) dX1_kept_13 ⟨Nat.le_of_ble_eq_true rfl, Nat.le_of_ble_eq_true rfl⟩ ⟨Nat.le_of_ble_eq_true rfl, Nat.le_of_ble_eq_true rfl⟩ (fun vq uq H locs hp hI => ?_)
    obtain ⟨rfl, hu⟩ := hp
    rw [hu] at hI
    clear hu
    refine kstk (b := .int _ :: []) rfl ?_
    refine lv_if_ne (tgt := 21) hx hb dX1_kept_16 (by decide) (fun c16 => ?_) (fun c16 => absurd c16 ((fun q => by rw [bI_z, g2] at q; cases q)))
    refine lv_iload_n hx hb dX1_kept_21 rfl (lv_at hl 3 rfl) ?_
    refine lv_tableOut (tgt := 98) hx hb dX1_kept_22 (by decide) (by decide) ?_
    refine lv_aload_n hx hb dX1_kept_98 rfl (lv_at hl 0 rfl) ?_
    refine x_cget F hI ha 7 (by decide) rfl flX1_140 dX1_kept_99 ?_
    exact kret_i F hI dX1_kept_102 (⟨by simp [x_kval], rfl⟩)
theorem x_closeL_2 : ∀ (f k : Nat) (st : XS), k + f = 19 → (∀ i, i < 20 → ∀ a, st.2.1 2 i = some a → a ∈ st.2.2.2.1) → (x_closeL f k st).1 = st.1 ∧ (x_closeL f k st).2.2 = st.2.2 ∧ (x_closeL f k st).2.1 0 = st.2.1 0 ∧ (x_closeL f k st).2.1 1 = st.2.1 1 := by
  intro f
  induction f with
  | zero => intro k st _ _; exact ⟨rfl, rfl, rfl, rfl⟩
  | succ f ih =>
    intro k st hk h
    have h2 : ∀ i, i < 20 → ∀ a, (xrf st 2 k (st.2.1 2 (k + 1))).2.1 2 i = some a → a ∈ st.2.2.2.1 := by
      intro i hi a ha
      have e : (xrf st 2 k (st.2.1 2 (k + 1))).2.1 2 i = va_up (st.2.1 2) k (st.2.1 2 (k + 1)) i := rfl
      rw [e] at ha
      by_cases q : i = k
      · subst q; rw [va_up_self] at ha; exact h _ (by omega) a ha
      · rw [va_up_ne _ _ q] at ha; exact h i hi a ha
    exact ih (k + 1) _ (by omega) h2
theorem xc_close (st : XS) (i : Nat) (hi : i < 20) (h : ∀ i, i < 20 → ∀ a, st.2.1 2 i = some a → a ∈ st.2.2.2.1) : kM l yX1_closeRowAt cX1_closeRowAt 3 none 0 0 0 0 D (xty K) (xw g K) [.ref (g 0), .int (nI i)] st (fun v u => v = none ∧ u = x_close st i) := by
  refine kM_intro (by decide) (Nat.le_of_ble_eq_true rfl) ?_
  intro p e s m below meth c A ls F hA hI hl
  obtain ⟨hx, hb, hr, hml, hown, hts, hlk, hK, hnm⟩ := id F
  have hl : lv_has ls 3 [(0, .ref (g 0)), (1, .int (nI i))] := hl
  refine lv_iload_n hx hb dX1_closeRowAt_0 rfl (lv_at hl 1 rfl) ?_
  refine lv_istore_n (lv' := [(2, .int _), (0, .ref _), (1, .int _)]) hx hb dX1_closeRowAt_1 rfl hl (by decide) rfl (fun ls hl => ?_)
  refine wloop (σ := Nat × Nat × XS) (fun x => x.1) (fun x H locs ls => x.2.1 + x.1 = 19 ∧ x_closeL x.1 x.2.1 x.2.2 = x_closeL (19 - i) i st ∧ (∀ i, i < 20 → ∀ a, x.2.2.2.1 2 i = some a → a ∈ x.2.2.2.2.2.1) ∧ kI D (xw g K) A s.heap x.2.2 H locs ∧ lv_has ls 3 [(2, .int (nI x.2.1)), (0, .ref (g 0)), (1, .int (nI i))]) ?_ (19 - i, i, st) _ _ _ ⟨by show i + (19 - i) = 19; omega, rfl, h, hI, lv_sub hl [0, 1, 2] rfl⟩
  rintro ⟨f, k, u⟩ H locs ls ⟨hk, he, hok, hI, hl⟩ ih
  dsimp only at hk he hok hI hl ih
  refine lv_iload_n hx hb dX1_closeRowAt_2 rfl (lv_at hl 0 rfl) ?_
  refine lv_bipush (v := nI 19) hx hb dX1_closeRowAt_3 (by decide) ?_
  refine lv_icmp_ge (tgt := 28) hx hb dX1_closeRowAt_5 (by decide) (fun c5 => ?_) (fun c5 => ?_)
  ·
    rw [nI_leI (by omega) (by omega)] at c5
    obtain rfl : f = 0 := by omega
    have he : u = x_closeL (19 - i) i st := he
    refine lv_aload_n hx hb dX1_closeRowAt_28 rfl (lv_at hl 1 rfl) ?_
    refine x_get F hI 7 (by decide) rfl flX1_45 dX1_closeRowAt_29 ?_
    refine lv_bipush (v := nI 19) hx hb dX1_closeRowAt_32 (by decide) ?_
    refine lv_null hx hb dX1_closeRowAt_34 ?_
    refine x_rstN F hI 2 (show 19 < 20 by omega) rfl dX1_closeRowAt_35 (fun H locs hI => ?_)
    refine lv_aload_n hx hb dX1_closeRowAt_36 rfl (lv_at hl 1 rfl) ?_
    refine x_get F hI 2 (by decide) rfl flX1_25 dX1_closeRowAt_37 ?_
    refine lv_iconst (v := nI 2) hx hb dX1_closeRowAt_40 (by decide) ?_
    refine lv_dup2_11 hx hb dX1_closeRowAt_41 rfl rfl ?_
    refine x_ald F hI 2 (show 2 < 13 by omega) rfl dX1_closeRowAt_42 ?_
    refine lv_iconst (v := nI 1) hx hb dX1_closeRowAt_43 (by decide) ?_
    refine lv_isub hx hb dX1_closeRowAt_44 ?_
    refine x_ast F hI 2 (show 2 < 13 by omega) rfl dX1_closeRowAt_45 (fun H locs hI => ?_)
    exact kret_v F hI dX1_closeRowAt_46 (⟨rfl, by rw [x_close, ← he]; rfl⟩)
  ·
    rw [nI_leI (by omega) (by omega)] at c5
    obtain ⟨f, rfl⟩ : ∃ f', f = f' + 1 := ⟨f - 1, by omega⟩
    refine lv_aload_n hx hb dX1_closeRowAt_8 rfl (lv_at hl 1 rfl) ?_
    refine x_get F hI 7 (by decide) rfl flX1_45 dX1_closeRowAt_9 ?_
    refine lv_iload_n hx hb dX1_closeRowAt_12 rfl (lv_at hl 0 rfl) ?_
    refine lv_aload_n hx hb dX1_closeRowAt_13 rfl (lv_at hl 1 rfl) ?_
    refine x_get F hI 7 (by decide) rfl flX1_45 dX1_closeRowAt_14 ?_
    refine lv_iload_n hx hb dX1_closeRowAt_17 rfl (lv_at hl 0 rfl) ?_
    refine lv_iconst (v := nI 1) hx hb dX1_closeRowAt_18 (by decide) ?_
    refine lv_iadd hx hb dX1_closeRowAt_19 ?_
    refine ktop (y := nI (k + 1)) (nI_add _ _) ?_
    refine x_rld F hI 2 (show (k + 1) < 20 by omega) rfl dX1_closeRowAt_20 ?_
    refine x_rstQ F hI (fun a ha => hok (k + 1) (by omega) a ha) 2 (show k < 20 by omega) rfl dX1_closeRowAt_21 (fun H locs hI => ?_)
    have hI : kI D _ A s.heap (xrf u 2 k (u.2.1 2 (k + 1))) H locs := hI
    generalize hS21 : xrf u 2 k (u.2.1 2 (k + 1)) = S21 at hI
    refine lv_iinc (v := nI (k + 1)) (lv' := [(2, .int _), (0, .ref _), (1, .int _)]) hx hb dX1_closeRowAt_22 hl (k := 0) rfl (kinc _ 1) (by decide) rfl (fun ls hl => ?_)
    refine lv_goto (tgt := 2) hx hb dX1_closeRowAt_25 (by decide) ?_
    have hok2 : ∀ i, i < 20 → ∀ a, S21.2.1 2 i = some a → a ∈ S21.2.2.2.1 := by
      intro i hi a ha
      rw [← hS21] at ha ⊢
      have e : (xrf u 2 k (u.2.1 2 (k + 1))).2.1 2 i = va_up (u.2.1 2) k (u.2.1 2 (k + 1)) i := rfl
      rw [e] at ha
      by_cases q : i = k
      · subst q; rw [va_up_self] at ha; exact hok _ (by omega) a ha
      · rw [va_up_ne _ _ q] at ha; exact hok i hi a ha
    exact ih (f, k + 1, S21) _ _ _ (by show f < f + 1; omega) ⟨by show k + 1 + f = _; omega, by rw [← he, ← hS21]; rfl, hok2, hI, lv_sub hl [0, 1, 2] rfl⟩
theorem xc_take_bad (st : XS) (x : Int32) (ho : x_kat st x = none) : kM l yX1_take cX1_take 3 (some .int) 2 42 0 0 D (xty K) (xw g K) [.ref (g 0), .int x] st (fun v u => v = some (.int (-1)) ∧ u = st) := by
  refine kM_intro (by decide) (Nat.le_of_ble_eq_true rfl) ?_
  intro p e s m below meth c A ls F hA hI hl
  obtain ⟨hx, hb, hr, hml, hown, hts, hlk, hK, hnm⟩ := id F
  have hl : lv_has ls 3 [(0, .ref (g 0)), (1, .int x)] := hl
  refine lv_aload_n hx hb dX1_take_0 rfl (lv_at hl 0 rfl) ?_
  refine lv_iload_n hx hb dX1_take_1 rfl (lv_at hl 1 rfl) ?_
  refine kcallV (rest := []) F hA hI (xc_keptAt l _ _) kgX1_128 (x_rec F hI) hl.1 rfl rfl (Nat.le_of_ble_eq_true rfl) dX1_take_2 ⟨Nat.le_of_ble_eq_true rfl, Nat.le_of_ble_eq_true rfl⟩ ⟨Nat.le_of_ble_eq_true rfl, Nat.le_of_ble_eq_true rfl⟩ (fun vq uq H locs hp hI => ?_)
  obtain ⟨rfl, hu⟩ := hp
  rw [hu] at hI
  clear hu
  refine kstk (b := .null :: []) (by rw [ho]; rfl) ?_
  refine lv_astore_nN (lv' := [(2, .null), (0, .ref _), (1, .int _)]) hx hb dX1_take_5 rfl hl (by decide) rfl (fun ls hl => ?_)
  refine lv_aload_nN hx hb dX1_take_6 rfl (lv_at hl 0 rfl) ?_
  refine lv_ifnonnullN hx hb dX1_take_7 ?_
  refine lv_iconst (v := -1) hx hb dX1_take_10 (by decide) ?_
  exact kret_i F hI dX1_take_11 (⟨rfl, rfl⟩)
theorem xc_take (st : XS) (i a sh : Nat) (hi : i < 20) (hs : sh < 5) (ho : st.2.1 2 i = some a) (h1 : cf st a 1 = nI sh) (h : ∀ i, i < 20 → ∀ a, st.2.1 2 i = some a → a ∈ st.2.2.2.1) : kM l yX1_take cX1_take 3 (some .int) 2 42 0 0 D (xty K) (xw g K) [.ref (g 0), .int (nI i)] st (fun v u => v = some (.int (cf st a 0)) ∧ u = x_take st i a sh (cf st a 8)) := by
  refine kM_intro (by decide) (Nat.le_of_ble_eq_true rfl) ?_
  intro p e s m below meth c A ls F hA hI hl
  obtain ⟨hx, hb, hr, hml, hown, hts, hlk, hK, hnm⟩ := id F
  have hl : lv_has ls 3 [(0, .ref (g 0)), (1, .int (nI i))] := hl
  have ha := h i hi a ho
  have ho2 : x_kat st (nI i) = some a := by rw [x_kat_n st hi]; exact ho
  have hc := x_closeL_2 (19 - i) i st (by omega) h
  refine lv_aload_n hx hb dX1_take_0 rfl (lv_at hl 0 rfl) ?_
  refine lv_iload_n hx hb dX1_take_1 rfl (lv_at hl 1 rfl) ?_
  refine kcallV (rest := []) F hA hI (xc_keptAt l _ _) kgX1_128 (x_rec F hI) hl.1 rfl rfl (Nat.le_of_ble_eq_true rfl) dX1_take_2 ⟨Nat.le_of_ble_eq_true rfl, Nat.le_of_ble_eq_true rfl⟩ ⟨Nat.le_of_ble_eq_true rfl, Nat.le_of_ble_eq_true rfl⟩ (fun vq uq H locs hp hI => ?_)
  obtain ⟨rfl, hu⟩ := hp
  rw [hu] at hI
  clear hu
  refine kstk (b := .ref a :: []) (by rw [ho2]; rfl) ?_
  refine lv_astore_n (lv' := [(2, .ref _), (0, .ref _), (1, .int _)]) hx hb dX1_take_5 rfl hl (by decide) rfl (fun ls hl => ?_)
  refine lv_aload_n hx hb dX1_take_6 rfl (lv_at hl 0 rfl) ?_
  refine lv_ifnonnull (tgt := 12) hx hb dX1_take_7 (by decide) ?_
  refine lv_aload_n hx hb dX1_take_12 rfl (lv_at hl 1 rfl) ?_
  refine lv_iload_n hx hb dX1_take_13 rfl (lv_at hl 2 rfl) ?_
  refine kcallV (rest := []) F hA hI (xc_close l _ i hi h) kgX1_143 (x_rec F hI) hl.1 rfl rfl (Nat.le_of_ble_eq_true rfl) dX1_take_14 ⟨Nat.le_of_ble_eq_true rfl, Nat.le_of_ble_eq_true rfl⟩ ⟨Nat.le_of_ble_eq_true rfl, Nat.le_of_ble_eq_true rfl⟩ (fun vq uq H locs hp hI => ?_)
  obtain ⟨rfl, hu⟩ := hp
  rw [hu] at hI
  clear hu
  refine kstk (b := []) rfl ?_
  have hI : kI D _ A s.heap (x_close st i) H locs := hI
  generalize hS14 : x_close st i = S14 at hI
  have e4 : S14.2.2 = st.2.2 := by rw [← hS14]; exact hc.2.1
  have ha4 : a ∈ S14.2.2.2.1 := by rw [e4]; exact ha
  refine lv_aload_n hx hb dX1_take_17 rfl (lv_at hl 0 rfl) ?_
  refine lv_iconst (v := nI 0) hx hb dX1_take_18 (by decide) ?_
  refine x_cput (ty := .boolean) F hI ha4 10 (by decide) rfl flX1_124 (by decide +kernel) rfl rfl rfl dX1_take_19 (fun H locs hI => ?_)
  have hI : kI D _ A s.heap (xc S14 a 10 (nI 0)) H locs := hI
  generalize hS19 : xc S14 a 10 (nI 0) = S19 at hI
  have ha9 : a ∈ S19.2.2.2.1 := by rw [← hS19]; exact ha4
  refine lv_aload_n hx hb dX1_take_22 rfl (lv_at hl 0 rfl) ?_
  refine lv_iconst (v := nI 1) hx hb dX1_take_23 (by decide) ?_
  refine x_cput (ty := .boolean) F hI ha9 11 (by decide) rfl flX1_146 (by decide +kernel) rfl rfl rfl dX1_take_24 (fun H locs hI => ?_)
  have hI : kI D _ A s.heap (xc S19 a 11 (nI 1)) H locs := hI
  generalize hS24 : xc S19 a 11 (nI 1) = S24 at hI
  have ha5 : a ∈ S24.2.2.2.1 := by rw [← hS24]; exact ha9
  have f0 : cf S24 a 0 = cf st a 0 := by rw [← hS24, cf_ne (by decide), ← hS19, cf_ne (by decide)]; unfold cf; rw [e4]
  have f1 : cf S24 a 1 = nI sh := by rw [← hS24, cf_ne (by decide), ← hS19, cf_ne (by decide), ← h1]; unfold cf; rw [e4]
  have f8 : cf S24 a 8 = cf st a 8 := by rw [← hS24, cf_ne (by decide), ← hS19, cf_ne (by decide)]; unfold cf; rw [e4]
  refine lv_aload_n hx hb dX1_take_27 rfl (lv_at hl 1 rfl) ?_
  refine x_get F hI 3 (by decide) rfl flX1_30 dX1_take_28 ?_
  refine lv_aload_n hx hb dX1_take_31 rfl (lv_at hl 0 rfl) ?_
  refine x_cget F hI ha5 1 (by decide) rfl flX1_112 dX1_take_32 ?_
  refine ktop (y := nI (sh)) (by exact f1) ?_
  refine x_tal F hI (s' := (sh)) (by omega) rfl dX1_take_35 ?_
  refine lv_iconst (v := nI 1) hx hb dX1_take_36 (by decide) ?_
  refine lv_dup2_11 hx hb dX1_take_37 rfl rfl ?_
  refine x_tald F hI (s' := (sh)) (by omega) (show 1 < 7 by omega) rfl dX1_take_38 ?_
  refine lv_aload_n hx hb dX1_take_39 rfl (lv_at hl 0 rfl) ?_
  refine x_cget F hI ha5 8 (by decide) rfl flX1_134 dX1_take_40 ?_
  refine ktop (y := cf st a 8) (by exact f8) ?_
  refine lv_isub hx hb dX1_take_43 ?_
  refine x_tast F hI (s' := (sh)) (by omega) (show 1 < 7 by omega) rfl dX1_take_44 (fun H locs hI => ?_)
  have hI : kI D _ A s.heap (xsub S24 (4 + sh) 1 (cf st a 8)) H locs := hI
  generalize hS44 : xsub S24 (4 + sh) 1 (cf st a 8) = S44 at hI
  have ha6 : a ∈ S44.2.2.2.1 := by rw [← hS44]; exact ha5
  refine lv_aload_n hx hb dX1_take_45 rfl (lv_at hl 1 rfl) ?_
  refine x_get F hI 3 (by decide) rfl flX1_30 dX1_take_46 ?_
  refine lv_aload_n hx hb dX1_take_49 rfl (lv_at hl 0 rfl) ?_
  refine x_cget F hI ha6 1 (by decide) rfl flX1_112 dX1_take_50 ?_
  refine ktop (y := nI (sh)) (by rw [← hS44]; exact f1) ?_
  refine x_tal F hI (s' := (sh)) (by omega) rfl dX1_take_53 ?_
  refine lv_iconst (v := nI 2) hx hb dX1_take_54 (by decide) ?_
  refine lv_dup2_11 hx hb dX1_take_55 rfl rfl ?_
  refine x_tald F hI (s' := (sh)) (by omega) (show 2 < 7 by omega) rfl dX1_take_56 ?_
  refine lv_aload_n hx hb dX1_take_57 rfl (lv_at hl 0 rfl) ?_
  refine x_cget F hI ha6 8 (by decide) rfl flX1_134 dX1_take_58 ?_
  refine ktop (y := cf st a 8) (by rw [← hS44]; exact f8) ?_
  refine lv_iadd hx hb dX1_take_61 ?_
  refine x_tast F hI (s' := (sh)) (by omega) (show 2 < 7 by omega) rfl dX1_take_62 (fun H locs hI => ?_)
  have hI : kI D _ A s.heap (xadd S44 (4 + sh) 2 (cf st a 8)) H locs := hI
  generalize hS62 : xadd S44 (4 + sh) 2 (cf st a 8) = S62 at hI
  refine lv_aload_n hx hb dX1_take_63 rfl (lv_at hl 0 rfl) ?_
  refine x_cget F hI (show a ∈ S62.2.2.2.1 by rw [← hS62]; exact ha6) 0 (by decide) rfl flX1_131 dX1_take_64 ?_
  refine ktop (y := cf st a 0) (by rw [← hS62, ← hS44]; exact f0) ?_
  exact kret_i F hI dX1_take_67 (⟨rfl, by rw [x_take, hS14, hS19, hS24, hS44, hS62]⟩)
theorem xc_shape_bad (st : XS) (x w : Int32) (h : decide (¬ x < 0 ∧ ¬ nI 5 ≤ x) = false ∨ decide (¬ w < 0 ∧ ¬ nI 7 ≤ w) = false) : kM l yX1_shape cX1_shape 3 (some .int) 1 21 0 0 D (xty K) (xw g K) [.ref (g 0), .int x, .int w] st (fun v u => v = some (.int (-1)) ∧ u = st) := by
  refine kM_intro (by decide) (Nat.le_of_ble_eq_true rfl) ?_
  intro p e s m below meth c A ls F hA hI hl
  obtain ⟨hx, hb, hr, hml, hown, hts, hlk, hK, hnm⟩ := id F
  have hl : lv_has ls 3 [(0, .ref (g 0)), (1, .int x), (2, .int w)] := hl
  refine lv_iload_n hx hb dX1_shape_0 rfl (lv_at hl 1 rfl) ?_
  refine lv_iconst (v := nI 5) hx hb dX1_shape_1 (by decide) ?_
  refine kcallS (rest := []) F hA hI (xc_isBelow l _ _ _) kgX1_52 hl.1 rfl rfl (Nat.le_of_ble_eq_true rfl) dX1_shape_2 ⟨Nat.le_of_ble_eq_true rfl, Nat.le_of_ble_eq_true rfl⟩ ⟨Nat.le_of_ble_eq_true rfl, Nat.le_of_ble_eq_true rfl⟩ (fun vq uq H locs hp hI => ?_)
  obtain ⟨rfl, hu⟩ := hp
  rw [hu] at hI
  clear hu
  refine kstk (b := .int _ :: []) rfl ?_
  refine lv_if_eq (tgt := 28) hx hb dX1_shape_5 (by decide) (fun c5 => ?_) (fun c5 => ?_)
  ·
    rw [bI_z] at c5
    refine lv_iconst (v := -1) hx hb dX1_shape_28 (by decide) ?_
    exact kret_i F hI dX1_shape_29 (⟨rfl, rfl⟩)
  ·
    rw [bI_z] at c5
    refine lv_iload_n hx hb dX1_shape_8 rfl (lv_at hl 2 rfl) ?_
    refine lv_bipush (v := nI 7) hx hb dX1_shape_9 (by decide) ?_
    refine kcallS (rest := []) F hA hI (xc_isBelow l _ _ _) kgX1_52 hl.1 rfl rfl (Nat.le_of_ble_eq_true rfl) dX1_shape_11 ⟨Nat.le_of_ble_eq_true rfl, Nat.le_of_ble_eq_true rfl⟩ ⟨Nat.le_of_ble_eq_true rfl, Nat.le_of_ble_eq_true rfl⟩ (fun vq uq H locs hp hI => ?_)
    obtain ⟨rfl, hu⟩ := hp
    rw [hu] at hI
    clear hu
    refine kstk (b := .int _ :: []) rfl ?_
    refine lv_if_eq (tgt := 28) hx hb dX1_shape_14 (by decide) (fun c14 => ?_) (fun c14 => absurd c14 ((fun q => q (bI_z.mpr (h.resolve_left c5)))))
    refine lv_iconst (v := -1) hx hb dX1_shape_28 (by decide) ?_
    exact kret_i F hI dX1_shape_29 (⟨rfl, rfl⟩)
theorem xc_shape (st : XS) (i w : Nat) (hi : i < 5) (hw : w < 7) : kM l yX1_shape cX1_shape 3 (some .int) 1 21 0 0 D (xty K) (xw g K) [.ref (g 0), .int (nI i), .int (nI w)] st (fun v u => v = some (.int (st.1 (4 + i) w)) ∧ u = st) := by
  refine kM_intro (by decide) (Nat.le_of_ble_eq_true rfl) ?_
  intro p e s m below meth c A ls F hA hI hl
  obtain ⟨hx, hb, hr, hml, hown, hts, hlk, hK, hnm⟩ := id F
  have hl : lv_has ls 3 [(0, .ref (g 0)), (1, .int (nI i)), (2, .int (nI w))] := hl
  have g1 := isB_t (show i < 5 by omega) (by decide)
  have g2 := isB_t (show w < 7 by omega) (by decide)
  refine lv_iload_n hx hb dX1_shape_0 rfl (lv_at hl 1 rfl) ?_
  refine lv_iconst (v := nI 5) hx hb dX1_shape_1 (by decide) ?_
  refine kcallS (rest := []) F hA hI (xc_isBelow l _ _ _) kgX1_52 hl.1 rfl rfl (Nat.le_of_ble_eq_true rfl) dX1_shape_2 ⟨Nat.le_of_ble_eq_true rfl, Nat.le_of_ble_eq_true rfl⟩ ⟨Nat.le_of_ble_eq_true rfl, Nat.le_of_ble_eq_true rfl⟩ (fun vq uq H locs hp hI => ?_)
  obtain ⟨rfl, hu⟩ := hp
  rw [hu] at hI
  clear hu
  refine kstk (b := .int _ :: []) rfl ?_
  refine lv_if_eq (tgt := 28) hx hb dX1_shape_5 (by decide) (fun c5 => absurd c5 ((fun q => by rw [bI_z, g1] at q; cases q))) (fun c5 => ?_)
  refine lv_iload_n hx hb dX1_shape_8 rfl (lv_at hl 2 rfl) ?_
  refine lv_bipush (v := nI 7) hx hb dX1_shape_9 (by decide) ?_
  refine kcallS (rest := []) F hA hI (xc_isBelow l _ _ _) kgX1_52 hl.1 rfl rfl (Nat.le_of_ble_eq_true rfl) dX1_shape_11 ⟨Nat.le_of_ble_eq_true rfl, Nat.le_of_ble_eq_true rfl⟩ ⟨Nat.le_of_ble_eq_true rfl, Nat.le_of_ble_eq_true rfl⟩ (fun vq uq H locs hp hI => ?_)
  obtain ⟨rfl, hu⟩ := hp
  rw [hu] at hI
  clear hu
  refine kstk (b := .int _ :: []) rfl ?_
  refine lv_if_eq (tgt := 28) hx hb dX1_shape_14 (by decide) (fun c14 => absurd c14 ((fun q => by rw [bI_z, g2] at q; cases q))) (fun c14 => ?_)
  refine lv_aload_n hx hb dX1_shape_17 rfl (lv_at hl 0 rfl) ?_
  refine x_get F hI 3 (by decide) rfl flX1_30 dX1_shape_18 ?_
  refine lv_iload_n hx hb dX1_shape_21 rfl (lv_at hl 1 rfl) ?_
  refine x_tal F hI (s' := i) (by omega) rfl dX1_shape_22 ?_
  refine lv_iload_n hx hb dX1_shape_23 rfl (lv_at hl 2 rfl) ?_
  refine x_tald F hI (s' := i) (by omega) (show w < 7 by omega) rfl dX1_shape_24 ?_
  refine lv_goto (tgt := 29) hx hb dX1_shape_25 (by decide) ?_
  exact kret_i F hI dX1_shape_29 (⟨rfl, rfl⟩)
theorem xc_step_bad (st : XS) (x : Int32) (h : decide (¬ x < 0 ∧ ¬ nI 14 ≤ x) = false) : kM l yX1_step cX1_step 2 (some .int) 1 21 0 0 D (xty K) (xw g K) [.ref (g 0), .int x] st (fun v u => v = some (.int (-1)) ∧ u = st) := by
  refine kM_intro (by decide) (Nat.le_of_ble_eq_true rfl) ?_
  intro p e s m below meth c A ls F hA hI hl
  obtain ⟨hx, hb, hr, hml, hown, hts, hlk, hK, hnm⟩ := id F
  have hl : lv_has ls 2 [(0, .ref (g 0)), (1, .int x)] := hl
  refine lv_iload_n hx hb dX1_step_0 rfl (lv_at hl 1 rfl) ?_
  refine lv_bipush (v := nI 14) hx hb dX1_step_1 (by decide) ?_
  refine kcallS (rest := []) F hA hI (xc_isBelow l _ _ _) kgX1_52 hl.1 rfl rfl (Nat.le_of_ble_eq_true rfl) dX1_step_3 ⟨Nat.le_of_ble_eq_true rfl, Nat.le_of_ble_eq_true rfl⟩ ⟨Nat.le_of_ble_eq_true rfl, Nat.le_of_ble_eq_true rfl⟩ (fun vq uq H locs hp hI => ?_)
  obtain ⟨rfl, hu⟩ := hp
  rw [hu] at hI
  clear hu
  refine kstk (b := .int _ :: []) rfl ?_
  refine lv_if_eq (tgt := 18) hx hb dX1_step_6 (by decide) (fun c6 => ?_) (fun c6 => absurd c6 ((fun q => q (bI_z.mpr h))))
  refine lv_iconst (v := -1) hx hb dX1_step_18 (by decide) ?_
  exact kret_i F hI dX1_step_19 (⟨rfl, rfl⟩)
theorem xc_step (st : XS) (j : Nat) (hj : j < 14) : kM l yX1_step cX1_step 2 (some .int) 1 21 0 0 D (xty K) (xw g K) [.ref (g 0), .int (nI j)] st (fun v u => v = some (.int (st.1 3 j)) ∧ u = st) := by
  refine kM_intro (by decide) (Nat.le_of_ble_eq_true rfl) ?_
  intro p e s m below meth c A ls F hA hI hl
  obtain ⟨hx, hb, hr, hml, hown, hts, hlk, hK, hnm⟩ := id F
  have hl : lv_has ls 2 [(0, .ref (g 0)), (1, .int (nI j))] := hl
  have g1 := isB_t (show j < 14 by omega) (by decide)
  refine lv_iload_n hx hb dX1_step_0 rfl (lv_at hl 1 rfl) ?_
  refine lv_bipush (v := nI 14) hx hb dX1_step_1 (by decide) ?_
  refine kcallS (rest := []) F hA hI (xc_isBelow l _ _ _) kgX1_52 hl.1 rfl rfl (Nat.le_of_ble_eq_true rfl) dX1_step_3 ⟨Nat.le_of_ble_eq_true rfl, Nat.le_of_ble_eq_true rfl⟩ ⟨Nat.le_of_ble_eq_true rfl, Nat.le_of_ble_eq_true rfl⟩ (fun vq uq H locs hp hI => ?_)
  obtain ⟨rfl, hu⟩ := hp
  rw [hu] at hI
  clear hu
  refine kstk (b := .int _ :: []) rfl ?_
  refine lv_if_eq (tgt := 18) hx hb dX1_step_6 (by decide) (fun c6 => absurd c6 ((fun q => by rw [bI_z, g1] at q; cases q))) (fun c6 => ?_)
  refine lv_aload_n hx hb dX1_step_9 rfl (lv_at hl 0 rfl) ?_
  refine x_get F hI 4 (by decide) rfl flX1_33 dX1_step_10 ?_
  refine lv_iload_n hx hb dX1_step_13 rfl (lv_at hl 1 rfl) ?_
  refine x_ald F hI 3 (show j < 14 by omega) rfl dX1_step_14 ?_
  refine lv_goto (tgt := 19) hx hb dX1_step_15 (by decide) ?_
  exact kret_i F hI dX1_step_19 (⟨rfl, rfl⟩)
theorem xc_count_bad (st : XS) (x : Int32) (h : decide (¬ x < 0 ∧ ¬ nI 13 ≤ x) = false) : kM l yX1_count cX1_count 2 (some .int) 1 21 0 0 D (xty K) (xw g K) [.ref (g 0), .int x] st (fun v u => v = some (.int (-1)) ∧ u = st) := by
  refine kM_intro (by decide) (Nat.le_of_ble_eq_true rfl) ?_
  intro p e s m below meth c A ls F hA hI hl
  obtain ⟨hx, hb, hr, hml, hown, hts, hlk, hK, hnm⟩ := id F
  have hl : lv_has ls 2 [(0, .ref (g 0)), (1, .int x)] := hl
  refine lv_iload_n hx hb dX1_count_0 rfl (lv_at hl 1 rfl) ?_
  refine lv_bipush (v := nI 13) hx hb dX1_count_1 (by decide) ?_
  refine kcallS (rest := []) F hA hI (xc_isBelow l _ _ _) kgX1_52 hl.1 rfl rfl (Nat.le_of_ble_eq_true rfl) dX1_count_3 ⟨Nat.le_of_ble_eq_true rfl, Nat.le_of_ble_eq_true rfl⟩ ⟨Nat.le_of_ble_eq_true rfl, Nat.le_of_ble_eq_true rfl⟩ (fun vq uq H locs hp hI => ?_)
  obtain ⟨rfl, hu⟩ := hp
  rw [hu] at hI
  clear hu
  refine kstk (b := .int _ :: []) rfl ?_
  refine lv_if_eq (tgt := 18) hx hb dX1_count_6 (by decide) (fun c6 => ?_) (fun c6 => absurd c6 ((fun q => q (bI_z.mpr h))))
  refine lv_iconst (v := -1) hx hb dX1_count_18 (by decide) ?_
  exact kret_i F hI dX1_count_19 (⟨rfl, rfl⟩)
theorem xc_count (st : XS) (w : Nat) (hw : w < 13) : kM l yX1_count cX1_count 2 (some .int) 1 21 0 0 D (xty K) (xw g K) [.ref (g 0), .int (nI w)] st (fun v u => v = some (.int (st.1 2 w)) ∧ u = st) := by
  refine kM_intro (by decide) (Nat.le_of_ble_eq_true rfl) ?_
  intro p e s m below meth c A ls F hA hI hl
  obtain ⟨hx, hb, hr, hml, hown, hts, hlk, hK, hnm⟩ := id F
  have hl : lv_has ls 2 [(0, .ref (g 0)), (1, .int (nI w))] := hl
  have g1 := isB_t (show w < 13 by omega) (by decide)
  refine lv_iload_n hx hb dX1_count_0 rfl (lv_at hl 1 rfl) ?_
  refine lv_bipush (v := nI 13) hx hb dX1_count_1 (by decide) ?_
  refine kcallS (rest := []) F hA hI (xc_isBelow l _ _ _) kgX1_52 hl.1 rfl rfl (Nat.le_of_ble_eq_true rfl) dX1_count_3 ⟨Nat.le_of_ble_eq_true rfl, Nat.le_of_ble_eq_true rfl⟩ ⟨Nat.le_of_ble_eq_true rfl, Nat.le_of_ble_eq_true rfl⟩ (fun vq uq H locs hp hI => ?_)
  obtain ⟨rfl, hu⟩ := hp
  rw [hu] at hI
  clear hu
  refine kstk (b := .int _ :: []) rfl ?_
  refine lv_if_eq (tgt := 18) hx hb dX1_count_6 (by decide) (fun c6 => absurd c6 ((fun q => by rw [bI_z, g1] at q; cases q))) (fun c6 => ?_)
  refine lv_aload_n hx hb dX1_count_9 rfl (lv_at hl 0 rfl) ?_
  refine x_get F hI 2 (by decide) rfl flX1_25 dX1_count_10 ?_
  refine lv_iload_n hx hb dX1_count_13 rfl (lv_at hl 1 rfl) ?_
  refine x_ald F hI 2 (show w < 13 by omega) rfl dX1_count_14 ?_
  refine lv_goto (tgt := 19) hx hb dX1_count_15 (by decide) ?_
  exact kret_i F hI dX1_count_19 (⟨rfl, rfl⟩)
theorem xc_trace (st : XS) : kM l yX1_trace cX1_trace 1 (some .long) 0 0 0 0 D (xty K) (xw g K) [.ref (g 0)] st (fun v u => v = some (.long st.2.2.1) ∧ u = st) := by
  refine kM_intro (by decide) (Nat.le_of_ble_eq_true rfl) ?_
  intro p e s m below meth c A ls F hA hI hl
  obtain ⟨hx, hb, hr, hml, hown, hts, hlk, hK, hnm⟩ := id F
  have hl : lv_has ls 1 [(0, .ref (g 0))] := hl
  refine lv_aload_n hx hb dX1_trace_0 rfl (lv_at hl 0 rfl) ?_
  refine x_get F hI 8 (by decide) rfl flX1_48 dX1_trace_1 ?_
  exact kret_l F hI dX1_trace_4 (⟨rfl, rfl⟩)
theorem xc_share (st : XS) (a b : Nat) (sN : Nat → Nat) (T : Nat) (hb2 : b ≤ 1000) (ha : a ≤ b) (hT : T < 2 ^ 22) (hS : sumN sN 14 = T) (h12 : ∀ j, j < 14 → st.1 3 j = nI (sN j)) (h10 : st.1 2 10 = nI T) : kM l yX1_stepOfShare cX1_stepOfShare 8 (some .int) 0 0 0 0 D (xty K) (xw g K) [.ref (g 0), .int (nI a), .int (nI b)] st (fun v u => v = some (.int (nI (bnd sN T a b))) ∧ u = st) := by
  refine kM_intro (by decide) (Nat.le_of_ble_eq_true rfl) ?_
  intro p e s m below meth c A ls F hA hI hl
  obtain ⟨hx, hb, hr, hml, hown, hts, hlk, hK, hnm⟩ := id F
  have hl : lv_has ls 8 [(0, .ref (g 0)), (1, .int (nI a)), (2, .int (nI b))] := hl
  have haT : a * T < 2 ^ 63 := Nat.lt_of_le_of_lt (Nat.mul_le_mul (show a ≤ 1000 by omega) (Nat.le_of_lt hT)) (by decide)
  refine lv_iload_n hx hb dX1_stepOfShare_0 rfl (lv_at hl 1 rfl) ?_
  refine lv_i2l hx hb dX1_stepOfShare_1 rfl ?_
  refine ktopl (y := lN (a)) (by exact nI_l (by omega)) ?_
  refine lv_aload_n hx hb dX1_stepOfShare_2 rfl (lv_at hl 0 rfl) ?_
  refine x_get F hI 2 (by decide) rfl flX1_25 dX1_stepOfShare_3 ?_
  refine lv_bipush (v := nI 10) hx hb dX1_stepOfShare_6 (by decide) ?_
  refine x_ald F hI 2 (show 10 < 13 by omega) rfl dX1_stepOfShare_8 ?_
  refine ktop (y := nI (T)) (by exact h10) ?_
  refine lv_i2l hx hb dX1_stepOfShare_9 rfl ?_
  refine ktopl (y := lN (T)) (by exact nI_l (by omega)) ?_
  refine lv_lmul hx hb dX1_stepOfShare_10 ?_
  refine ktopl (y := lN (a * T)) (by exact lN_mul _ _) ?_
  refine lv_lstore_n (lv' := [(3, .long _), (0, .ref _), (1, .int _), (2, .int _)]) hx hb dX1_stepOfShare_11 rfl hl (by decide) rfl (fun ls hl => ?_)
  refine lv_aload_n hx hb dX1_stepOfShare_12 rfl (lv_at hl 1 rfl) ?_
  refine x_get F hI 4 (by decide) rfl flX1_33 dX1_stepOfShare_13 ?_
  refine lv_iconst (v := nI 0) hx hb dX1_stepOfShare_16 (by decide) ?_
  refine x_ald F hI 3 (show 0 < 14 by omega) rfl dX1_stepOfShare_17 ?_
  refine ktop (y := nI (sN 0)) (by exact h12 0 (by decide)) ?_
  refine lv_i2l hx hb dX1_stepOfShare_18 rfl ?_
  refine ktopl (y := lN (sumN sN (0 + 1))) (by rw [nI_l (show sN 0 < 2 ^ 31 by have := sumN_le sN (show 1 ≤ 14 by decide); have e : sumN sN 1 = 0 + sN 0 := rfl; omega)]; exact congrArg lN (Nat.zero_add _).symm) ?_
  refine lv_lstore (lv' := [(5, .long _), (3, .long _), (0, .ref _), (1, .int _), (2, .int _)]) hx hb dX1_stepOfShare_19 hl (by decide) rfl (fun ls hl => ?_)
  refine lv_iconst (v := nI 0) hx hb dX1_stepOfShare_21 (by decide) ?_
  refine lv_istore (lv' := [(7, .int _), (5, .long _), (3, .long _), (0, .ref _), (1, .int _), (2, .int _)]) hx hb dX1_stepOfShare_22 hl (by decide) rfl (fun ls hl => ?_)
  refine wloop (σ := Nat × Nat) (fun x => x.1) (fun x H locs ls => x.2 + x.1 = 13 ∧ bndL sN T a b x.1 x.2 = bnd sN T a b ∧ kI D (xw g K) A s.heap st H locs ∧ lv_has ls 8 [(7, .int (nI x.2)), (5, .long (lN (sumN sN (x.2 + 1)))), (3, .long (lN (a * T))), (0, .ref (g 0)), (1, .int (nI a)), (2, .int (nI b))]) ?_ (13, 0) _ _ _ ⟨rfl, rfl, hI, lv_sub hl [0, 1, 2, 3, 4, 5] rfl⟩
  rintro ⟨f, j⟩ H locs ls ⟨hk, he, hI, hl⟩ ih
  dsimp only at hk he hI hl ih
  have hle := sumN_le sN (show j + 1 ≤ 14 by omega)
  have hsb : sumN sN (j + 1) * b < 2 ^ 63 := Nat.lt_of_le_of_lt (Nat.mul_le_mul (show sumN sN (j + 1) ≤ 2 ^ 22 by omega) hb2) (by decide)
  refine lv_iload hx hb dX1_stepOfShare_24 (lv_at hl 0 rfl) ?_
  refine lv_bipush (v := nI 13) hx hb dX1_stepOfShare_26 (by decide) ?_
  refine lv_icmp_ge (tgt := 60) hx hb dX1_stepOfShare_28 (by decide) (fun c28 => ?_) (fun c28 => ?_)
  ·
    rw [nI_leI (by omega) (by omega)] at c28
    obtain rfl : f = 0 := by omega
    have hj : j = bnd sN T a b := he
    refine lv_iload hx hb dX1_stepOfShare_60 (lv_at hl 0 rfl) ?_
    exact kret_i F hI dX1_stepOfShare_62 (⟨by rw [hj], rfl⟩)
  ·
    rw [nI_leI (by omega) (by omega)] at c28
    obtain ⟨f, rfl⟩ : ∃ f', f = f' + 1 := ⟨f - 1, by omega⟩
    refine lv_lload hx hb dX1_stepOfShare_31 (lv_at hl 1 rfl) ?_
    refine lv_iload_n hx hb dX1_stepOfShare_33 rfl (lv_at hl 5 rfl) ?_
    refine lv_i2l hx hb dX1_stepOfShare_34 rfl ?_
    refine ktopl (y := lN (b)) (by exact nI_l (by omega)) ?_
    refine lv_lmul hx hb dX1_stepOfShare_35 ?_
    refine ktopl (y := lN (sumN sN (j + 1) * b)) (by exact lN_mul _ _) ?_
    refine lv_lload_n hx hb dX1_stepOfShare_36 rfl (lv_at hl 2 rfl) ?_
    refine W.lcmp hx hb dX1_stepOfShare_37 ?_
    refine lv_if_ge (tgt := 60) hx hb dX1_stepOfShare_38 (by decide) (fun c38 => ?_) (fun c38 => ?_)
    ·
      rw [lg_cmp_ge, pk_lLE haT hsb] at c38
      have hj : j = bnd sN T a b := by rw [← he]; simp [bndL, show ¬ sumN sN (j + 1) * b < a * T by omega]
      refine lv_iload hx hb dX1_stepOfShare_60 (lv_at hl 0 rfl) ?_
      exact kret_i F hI dX1_stepOfShare_62 (⟨by rw [hj], rfl⟩)
    ·
      rw [lg_cmp_ge, pk_lLE haT hsb] at c38
      refine lv_iinc (v := nI (j + 1)) (lv' := [(7, .int _), (5, .long _), (3, .long _), (0, .ref _), (1, .int _), (2, .int _)]) hx hb dX1_stepOfShare_41 hl (k := 0) rfl (kinc _ 1) (by decide) rfl (fun ls hl => ?_)
      refine lv_lload hx hb dX1_stepOfShare_44 (lv_at hl 1 rfl) ?_
      refine lv_aload_n hx hb dX1_stepOfShare_46 rfl (lv_at hl 3 rfl) ?_
      refine x_get F hI 4 (by decide) rfl flX1_33 dX1_stepOfShare_47 ?_
      refine lv_iload hx hb dX1_stepOfShare_50 (lv_at hl 0 rfl) ?_
      refine x_ald F hI 3 (show (j + 1) < 14 by omega) rfl dX1_stepOfShare_52 ?_
      refine ktop (y := nI (sN (j + 1))) (by exact h12 (j + 1) (by omega)) ?_
      have hj1 := sumN_le sN (show j + 1 + 1 ≤ 14 by omega)
      have e1 : sumN sN (j + 1 + 1) = sumN sN (j + 1) + sN (j + 1) := rfl
      refine lv_i2l hx hb dX1_stepOfShare_53 rfl ?_
      refine ktopl (y := lN (sN (j + 1))) (by exact nI_l (by omega)) ?_
      refine lv_ladd hx hb dX1_stepOfShare_54 ?_
      refine ktopl (y := lN (sumN sN (j + 1 + 1))) (by exact lN_add _ _) ?_
      refine lv_lstore (lv' := [(5, .long _), (7, .int _), (3, .long _), (0, .ref _), (1, .int _), (2, .int _)]) hx hb dX1_stepOfShare_55 hl (by decide) rfl (fun ls hl => ?_)
      refine lv_goto (tgt := 24) hx hb dX1_stepOfShare_57 (by decide) ?_
      exact ih (f, j + 1) _ _ _ (by show f < f + 1; omega) ⟨by show j + 1 + f = _; omega, by rw [← he]; simp [bndL, show sumN sN (j + 1) * b < a * T by omega], hI, lv_sub hl [1, 0, 2, 3, 4, 5] rfl⟩
theorem xc_bound_bad (st : XS) (a b w : Int32) (h : inR b (nI 1) (nI 1000) = false ∨ inR a (nI 0) b = false ∨ decide (¬ w < 0 ∧ ¬ nI 2 ≤ w) = false) : kM l yX1_bound cX1_bound 5 (some .int) 1 27 0 0 D (xty K) (xw g K) [.ref (g 0), .int a, .int b, .int w] st (fun v u => v = some (.int (-1)) ∧ u = st) := by
  refine kM_intro (by decide) (Nat.le_of_ble_eq_true rfl) ?_
  intro p e s m below meth c A ls F hA hI hl
  obtain ⟨hx, hb, hr, hml, hown, hts, hlk, hK, hnm⟩ := id F
  have hl : lv_has ls 5 [(0, .ref (g 0)), (1, .int a), (2, .int b), (3, .int w)] := hl
  refine lv_iload_n hx hb dX1_bound_0 rfl (lv_at hl 2 rfl) ?_
  refine lv_iconst (v := nI 1) hx hb dX1_bound_1 (by decide) ?_
  refine lv_sipush (v := nI 1000) hx hb dX1_bound_2 (by decide) ?_
  refine kcallS (rest := []) F hA hI (xc_isWithin l _ _ _ _) kgX1_73 hl.1 rfl rfl (Nat.le_of_ble_eq_true rfl) dX1_bound_5 ⟨Nat.le_of_ble_eq_true rfl, Nat.le_of_ble_eq_true rfl⟩ ⟨Nat.le_of_ble_eq_true rfl, Nat.le_of_ble_eq_true rfl⟩ (fun vq uq H locs hp hI => ?_)
  obtain ⟨rfl, hu⟩ := hp
  rw [hu] at hI
  clear hu
  refine kstk (b := .int _ :: []) rfl ?_
  refine lv_if_eq (tgt := 28) hx hb dX1_bound_8 (by decide) (fun c8 => ?_) (fun c8 => ?_)
  ·
    rw [bI_z] at c8
    refine lv_iconst (v := -1) hx hb dX1_bound_28 (by decide) ?_
    exact kret_i F hI dX1_bound_29 (⟨rfl, rfl⟩)
  ·
    rw [bI_z] at c8
    refine lv_iload_n hx hb dX1_bound_11 rfl (lv_at hl 1 rfl) ?_
    refine lv_iconst (v := nI 0) hx hb dX1_bound_12 (by decide) ?_
    refine lv_iload_n hx hb dX1_bound_13 rfl (lv_at hl 2 rfl) ?_
    refine kcallS (rest := []) F hA hI (xc_isWithin l _ _ _ _) kgX1_73 hl.1 rfl rfl (Nat.le_of_ble_eq_true rfl) dX1_bound_14 ⟨Nat.le_of_ble_eq_true rfl, Nat.le_of_ble_eq_true rfl⟩ ⟨Nat.le_of_ble_eq_true rfl, Nat.le_of_ble_eq_true rfl⟩ (fun vq uq H locs hp hI => ?_)
    obtain ⟨rfl, hu⟩ := hp
    rw [hu] at hI
    clear hu
    refine kstk (b := .int _ :: []) rfl ?_
    refine lv_if_eq (tgt := 28) hx hb dX1_bound_17 (by decide) (fun c17 => ?_) (fun c17 => ?_)
    ·
      rw [bI_z] at c17
      refine lv_iconst (v := -1) hx hb dX1_bound_28 (by decide) ?_
      exact kret_i F hI dX1_bound_29 (⟨rfl, rfl⟩)
    ·
      rw [bI_z] at c17
      refine lv_iload_n hx hb dX1_bound_20 rfl (lv_at hl 3 rfl) ?_
      refine lv_iconst (v := nI 2) hx hb dX1_bound_21 (by decide) ?_
      refine kcallS (rest := []) F hA hI (xc_isBelow l _ _ _) kgX1_52 hl.1 rfl rfl (Nat.le_of_ble_eq_true rfl) dX1_bound_22 ⟨Nat.le_of_ble_eq_true rfl, Nat.le_of_ble_eq_true rfl⟩ ⟨Nat.le_of_ble_eq_true rfl, Nat.le_of_ble_eq_true rfl⟩ (fun vq uq H locs hp hI => ?_)
      obtain ⟨rfl, hu⟩ := hp
      rw [hu] at hI
      clear hu
      refine kstk (b := .int _ :: []) rfl ?_
      refine lv_if_ne (tgt := 30) hx hb dX1_bound_25 (by decide) (fun c25 => absurd c25 ((fun q => q (bI_z.mpr ((h.resolve_left c8).resolve_left c17))))) (fun c25 => ?_)
      refine lv_iconst (v := -1) hx hb dX1_bound_28 (by decide) ?_
      exact kret_i F hI dX1_bound_29 (⟨rfl, rfl⟩)
theorem bndL_le (sN : Nat → Nat) (T a b : Nat) : ∀ f j : Nat, bndL sN T a b f j ≤ j + f := by
  intro f
  induction f with
  | zero => intro j; exact Nat.le_refl _
  | succ f ih =>
    intro j
    unfold bndL
    split
    · have := ih (j + 1)
      omega
    · omega
theorem xc_bound (st : XS) (a b w : Nat) (sN : Nat → Nat) (T : Nat) (hb1 : 1 ≤ b) (hb2 : b ≤ 1000) (ha : a ≤ b) (hw : w < 2) (hT : T < 2 ^ 22) (hS : sumN sN 14 = T) (h12 : ∀ j, j < 14 → st.1 3 j = nI (sN j)) (h10 : st.1 2 10 = nI T) : kM l yX1_bound cX1_bound 5 (some .int) 1 27 0 0 D (xty K) (xw g K) [.ref (g 0), .int (nI a), .int (nI b), .int (nI w)] st (fun v u => v = some (.int (if T = 0 then -9 else bval (bnd sN T a b) w)) ∧ u = st) := by
  refine kM_intro (by decide) (Nat.le_of_ble_eq_true rfl) ?_
  intro p e s m below meth c A ls F hA hI hl
  obtain ⟨hx, hb, hr, hml, hown, hts, hlk, hK, hnm⟩ := id F
  have hl : lv_has ls 5 [(0, .ref (g 0)), (1, .int (nI a)), (2, .int (nI b)), (3, .int (nI w))] := hl
  have g1 : inR (nI b) (nI 1) (nI 1000) = true := inR_in (by decide) (by omega) (by omega)
  have g2 : inR (nI a) (nI 0) (nI b) = true := inR_in (by omega) (by omega) (by omega)
  have g3 := isB_t (show w < 2 by omega) (by decide)
  have zT : nI T = 0 ↔ T = 0 := nI_eq (b := 0) (by omega) (by decide)
  have hj13 : bnd sN T a b ≤ 13 := by have := bndL_le sN T a b 13 0; rw [bnd]; omega
  generalize hj : bnd sN T a b = j at hj13
  have zj : nI j = 0 ↔ j = 0 := nI_eq (b := 0) (by omega) (by decide)
  refine lv_iload_n hx hb dX1_bound_0 rfl (lv_at hl 2 rfl) ?_
  refine lv_iconst (v := nI 1) hx hb dX1_bound_1 (by decide) ?_
  refine lv_sipush (v := nI 1000) hx hb dX1_bound_2 (by decide) ?_
  refine kcallS (rest := []) F hA hI (xc_isWithin l _ _ _ _) kgX1_73 hl.1 rfl rfl (Nat.le_of_ble_eq_true rfl) dX1_bound_5 ⟨Nat.le_of_ble_eq_true rfl, Nat.le_of_ble_eq_true rfl⟩ ⟨Nat.le_of_ble_eq_true rfl, Nat.le_of_ble_eq_true rfl⟩ (fun vq uq H locs hp hI => ?_)
  obtain ⟨rfl, hu⟩ := hp
  rw [hu] at hI
  clear hu
  refine kstk (b := .int _ :: []) rfl ?_
  refine lv_if_eq (tgt := 28) hx hb dX1_bound_8 (by decide) (fun c8 => absurd c8 ((fun q => by rw [bI_z, g1] at q; cases q))) (fun c8 => ?_)
  refine lv_iload_n hx hb dX1_bound_11 rfl (lv_at hl 1 rfl) ?_
  refine lv_iconst (v := nI 0) hx hb dX1_bound_12 (by decide) ?_
  refine lv_iload_n hx hb dX1_bound_13 rfl (lv_at hl 2 rfl) ?_
  refine kcallS (rest := []) F hA hI (xc_isWithin l _ _ _ _) kgX1_73 hl.1 rfl rfl (Nat.le_of_ble_eq_true rfl) dX1_bound_14 ⟨Nat.le_of_ble_eq_true rfl, Nat.le_of_ble_eq_true rfl⟩ ⟨Nat.le_of_ble_eq_true rfl, Nat.le_of_ble_eq_true rfl⟩ (fun vq uq H locs hp hI => ?_)
  obtain ⟨rfl, hu⟩ := hp
  rw [hu] at hI
  clear hu
  refine kstk (b := .int _ :: []) rfl ?_
  refine lv_if_eq (tgt := 28) hx hb dX1_bound_17 (by decide) (fun c17 => absurd c17 ((fun q => by rw [bI_z, g2] at q; cases q))) (fun c17 => ?_)
  refine lv_iload_n hx hb dX1_bound_20 rfl (lv_at hl 3 rfl) ?_
  refine lv_iconst (v := nI 2) hx hb dX1_bound_21 (by decide) ?_
  refine kcallS (rest := []) F hA hI (xc_isBelow l _ _ _) kgX1_52 hl.1 rfl rfl (Nat.le_of_ble_eq_true rfl) dX1_bound_22 ⟨Nat.le_of_ble_eq_true rfl, Nat.le_of_ble_eq_true rfl⟩ ⟨Nat.le_of_ble_eq_true rfl, Nat.le_of_ble_eq_true rfl⟩ (fun vq uq H locs hp hI => ?_)
  obtain ⟨rfl, hu⟩ := hp
  rw [hu] at hI
  clear hu
  refine kstk (b := .int _ :: []) rfl ?_
  refine lv_if_ne (tgt := 30) hx hb dX1_bound_25 (by decide) (fun c25 => ?_) (fun c25 => absurd c25 ((fun q => by rw [bI_z, g3] at q; cases q)))
  refine lv_aload_n hx hb dX1_bound_30 rfl (lv_at hl 0 rfl) ?_
  refine x_get F hI 2 (by decide) rfl flX1_25 dX1_bound_31 ?_
  refine lv_bipush (v := nI 10) hx hb dX1_bound_34 (by decide) ?_
  refine x_ald F hI 2 (show 10 < 13 by omega) rfl dX1_bound_36 ?_
  refine ktop (y := nI (T)) (by exact h10) ?_
  refine lv_if_ne (tgt := 43) hx hb dX1_bound_37 (by decide) (fun c37 => ?_) (fun c37 => ?_)
  ·
    rw [zT] at c37
    refine lv_aload_n hx hb dX1_bound_43 rfl (lv_at hl 0 rfl) ?_
    refine lv_iload_n hx hb dX1_bound_44 rfl (lv_at hl 1 rfl) ?_
    refine lv_iload_n hx hb dX1_bound_45 rfl (lv_at hl 2 rfl) ?_
    refine kcallV (rest := []) F hA hI (xc_share l _ a b sN T hb2 ha hT hS h12 h10) kgX1_149 (x_rec F hI) hl.1 rfl rfl (Nat.le_of_ble_eq_true rfl) dX1_bound_46 ⟨Nat.le_of_ble_eq_true rfl, Nat.le_of_ble_eq_true rfl⟩ ⟨Nat.le_of_ble_eq_true rfl, Nat.le_of_ble_eq_true rfl⟩ (fun vq uq H locs hp hI => ?_)
    obtain ⟨rfl, hu⟩ := hp
    rw [hu] at hI
    clear hu
    refine kstk (b := .int _ :: []) rfl ?_
    refine ktop (y := nI (j)) (by rw [hj]) ?_
    refine lv_istore (lv' := [(4, .int _), (0, .ref _), (1, .int _), (2, .int _), (3, .int _)]) hx hb dX1_bound_49 hl (by decide) rfl (fun ls hl => ?_)
    refine lv_iload_n hx hb dX1_bound_51 rfl (lv_at hl 4 rfl) ?_
    refine lv_iconst (v := nI 1) hx hb dX1_bound_52 (by decide) ?_
    refine lv_icmp_ne (tgt := 61) hx hb dX1_bound_53 (by decide) (fun c53 => ?_) (fun c53 => ?_)
    ·
      rw [nI_eq (by omega) (by omega)] at c53
      refine lv_iload hx hb dX1_bound_61 (lv_at hl 0 rfl) ?_
      refine lv_if_ne (tgt := 70) hx hb dX1_bound_63 (by decide) (fun c63 => ?_) (fun c63 => ?_)
      ·
        rw [zj] at c63
        refine lv_iconst (v := nI 1) hx hb dX1_bound_70 (by decide) ?_
        refine lv_iload hx hb dX1_bound_71 (lv_at hl 0 rfl) ?_
        refine lv_iconst (v := nI 1) hx hb dX1_bound_73 (by decide) ?_
        refine lv_isub hx hb dX1_bound_74 ?_
        refine lv_ishl hx hb dX1_bound_75 ?_
        exact kret_i F hI dX1_bound_76 (⟨by simp [c37, bval, c53, c63], rfl⟩)
      ·
        rw [zj] at c63
        refine lv_iconst (v := nI 0) hx hb dX1_bound_66 (by decide) ?_
        refine lv_goto (tgt := 76) hx hb dX1_bound_67 (by decide) ?_
        exact kret_i F hI dX1_bound_76 (⟨by simp [c37, bval, c53, c63], rfl⟩)
    ·
      rw [nI_eq (by omega) (by omega)] at c53
      refine lv_iconst (v := nI 1) hx hb dX1_bound_56 (by decide) ?_
      refine lv_iload hx hb dX1_bound_57 (lv_at hl 0 rfl) ?_
      refine lv_ishl hx hb dX1_bound_59 ?_
      exact kret_i F hI dX1_bound_60 (⟨by simp [c37, bval, c53], rfl⟩)
  ·
    rw [zT] at c37
    refine lv_bipush (v := -9) hx hb dX1_bound_40 (by decide) ?_
    exact kret_i F hI dX1_bound_42 (⟨by simp [c37], rfl⟩)
theorem xc_leave (st : XS) : kM l yX1_leaveFair cX1_leaveFair 2 none 0 0 0 0 D (xty K) (xw g K) [.ref (g 0)] st (fun v u => v = none ∧ u = x_leaveL 5 0 st) := by
  refine kM_intro (by decide) (Nat.le_of_ble_eq_true rfl) ?_
  intro p e s m below meth c A ls F hA hI hl
  obtain ⟨hx, hb, hr, hml, hown, hts, hlk, hK, hnm⟩ := id F
  have hl : lv_has ls 2 [(0, .ref (g 0))] := hl
  refine lv_iconst (v := nI 0) hx hb dX1_leaveFair_0 (by decide) ?_
  refine lv_istore_n (lv' := [(1, .int _), (0, .ref _)]) hx hb dX1_leaveFair_1 rfl hl (by decide) rfl (fun ls hl => ?_)
  refine wloop (σ := Nat × Nat × XS) (fun x => x.1) (fun x H locs ls => x.2.1 + x.1 = 5 ∧ x_leaveL x.1 x.2.1 x.2.2 = x_leaveL 5 0 st ∧ kI D (xw g K) A s.heap x.2.2 H locs ∧ lv_has ls 2 [(1, .int (nI x.2.1)), (0, .ref (g 0))]) ?_ (5, 0, st) _ _ _ ⟨rfl, rfl, hI, lv_sub hl [0, 1] rfl⟩
  rintro ⟨f, i, u⟩ H locs ls ⟨hk, he, hI, hl⟩ ih
  dsimp only at hk he hI hl ih
  refine lv_iload_n hx hb dX1_leaveFair_2 rfl (lv_at hl 0 rfl) ?_
  refine lv_iconst (v := nI 5) hx hb dX1_leaveFair_3 (by decide) ?_
  refine lv_icmp_ge (tgt := 42) hx hb dX1_leaveFair_4 (by decide) (fun c4 => ?_) (fun c4 => ?_)
  ·
    rw [nI_leI (by omega) (by omega)] at c4
    obtain rfl : f = 0 := by omega
    have he : u = x_leaveL 5 0 st := he
    exact kret_v F hI dX1_leaveFair_42 (⟨rfl, he⟩)
  ·
    rw [nI_leI (by omega) (by omega)] at c4
    obtain ⟨f, rfl⟩ : ∃ f', f = f' + 1 := ⟨f - 1, by omega⟩
    refine lv_aload_n hx hb dX1_leaveFair_7 rfl (lv_at hl 1 rfl) ?_
    refine x_get F hI 3 (by decide) rfl flX1_30 dX1_leaveFair_8 ?_
    refine lv_iload_n hx hb dX1_leaveFair_11 rfl (lv_at hl 0 rfl) ?_
    refine x_tal F hI (s' := i) (by omega) rfl dX1_leaveFair_12 ?_
    refine lv_bipush (v := nI 6) hx hb dX1_leaveFair_13 (by decide) ?_
    refine lv_dup2_11 hx hb dX1_leaveFair_15 rfl rfl ?_
    refine x_tald F hI (s' := i) (by omega) (show 6 < 7 by omega) rfl dX1_leaveFair_16 ?_
    refine lv_aload_n hx hb dX1_leaveFair_17 rfl (lv_at hl 1 rfl) ?_
    refine x_get F hI 3 (by decide) rfl flX1_30 dX1_leaveFair_18 ?_
    refine lv_iload_n hx hb dX1_leaveFair_21 rfl (lv_at hl 0 rfl) ?_
    refine x_tal F hI (s' := i) (by omega) rfl dX1_leaveFair_22 ?_
    refine lv_iconst (v := nI 5) hx hb dX1_leaveFair_23 (by decide) ?_
    refine x_tald F hI (s' := i) (by omega) (show 5 < 7 by omega) rfl dX1_leaveFair_24 ?_
    refine lv_iadd hx hb dX1_leaveFair_25 ?_
    refine x_tast F hI (s' := i) (by omega) (show 6 < 7 by omega) rfl dX1_leaveFair_26 (fun H locs hI => ?_)
    have hI : kI D _ A s.heap (xadd u (4 + i) 6 (u.1 (4 + i) 5)) H locs := hI
    generalize hS26 : xadd u (4 + i) 6 (u.1 (4 + i) 5) = S26 at hI
    refine lv_aload_n hx hb dX1_leaveFair_27 rfl (lv_at hl 1 rfl) ?_
    refine x_get F hI 3 (by decide) rfl flX1_30 dX1_leaveFair_28 ?_
    refine lv_iload_n hx hb dX1_leaveFair_31 rfl (lv_at hl 0 rfl) ?_
    refine x_tal F hI (s' := i) (by omega) rfl dX1_leaveFair_32 ?_
    refine lv_iconst (v := nI 5) hx hb dX1_leaveFair_33 (by decide) ?_
    refine lv_iconst (v := nI 0) hx hb dX1_leaveFair_34 (by decide) ?_
    refine x_tast F hI (s' := i) (by omega) (show 5 < 7 by omega) rfl dX1_leaveFair_35 (fun H locs hI => ?_)
    have hI : kI D _ A s.heap (xset S26 (4 + i) 5 (nI 0)) H locs := hI
    generalize hS35 : xset S26 (4 + i) 5 (nI 0) = S35 at hI
    refine lv_iinc (v := nI (i + 1)) (lv' := [(1, .int _), (0, .ref _)]) hx hb dX1_leaveFair_36 hl (k := 0) rfl (kinc _ 1) (by decide) rfl (fun ls hl => ?_)
    refine lv_goto (tgt := 2) hx hb dX1_leaveFair_39 (by decide) ?_
    exact ih (f, i + 1, S35) _ _ _ (by show f < f + 1; omega) ⟨by show i + 1 + f = _; omega, by rw [← he, ← hS35, ← hS26]; rfl, hI, lv_sub hl [0, 1] rfl⟩
theorem xc_set_bad (st : XS) (x v : Int32) (h : decide (¬ x < 0 ∧ ¬ nI 6 ≤ x) = false ∨ ∃ w, w < 6 ∧ x = nI w ∧ inR v (lfS w) (gfS w) = false) : kMZ l yX1_set cX1_set 4 (some .int) 1 22 0 0 D (xty K) (xw g K) [.ref (g 0), .int x, .int v] st (fun r u => r = some (.int (-1)) ∧ u = st) := by
  refine kMZ_intro (by decide) (Nat.le_of_ble_eq_true rfl) ?_
  intro p e s m below meth c A ls F hA hI hZ hl
  obtain ⟨hx, hb, hr, hml, hown, hts, hlk, hK, hnm⟩ := id F
  have hl : lv_has ls 4 [(0, .ref (g 0)), (1, .int x), (2, .int v)] := hl
  obtain ⟨t1, t2, hZ1, hT1, hZ2, hT2⟩ := hZ
  rcases h with h | ⟨w, hw, rfl, h⟩
  · have hl := hl
    refine lv_iload_n hx hb dX1_set_0 rfl (lv_at hl 1 rfl) ?_
    refine lv_bipush (v := nI 6) hx hb dX1_set_1 (by decide) ?_
    refine kcallS (rest := []) F hA hI (xc_isBelow l _ _ _) kgX1_52 hl.1 rfl rfl (Nat.le_of_ble_eq_true rfl) dX1_set_3 ⟨Nat.le_of_ble_eq_true rfl, Nat.le_of_ble_eq_true rfl⟩ ⟨Nat.le_of_ble_eq_true rfl, Nat.le_of_ble_eq_true rfl⟩ (fun vq uq H locs hp hI => ?_)
    obtain ⟨rfl, hu⟩ := hp
    rw [hu] at hI
    clear hu
    refine kstk (b := .int _ :: []) rfl ?_
    refine lv_if_eq (tgt := 26) hx hb dX1_set_6 (by decide) (fun c6 => ?_) (fun c6 => absurd c6 ((fun q => q (bI_z.mpr h))))
    refine lv_iconst (v := -1) hx hb dX1_set_26 (by decide) ?_
    exact kret_i F hI dX1_set_27 (⟨rfl, rfl⟩)
  · have g1 := isB_t (show w < 6 by omega) (by decide)
    refine lv_iload_n hx hb dX1_set_0 rfl (lv_at hl 1 rfl) ?_
    refine lv_bipush (v := nI 6) hx hb dX1_set_1 (by decide) ?_
    refine kcallS (rest := []) F hA hI (xc_isBelow l _ _ _) kgX1_52 hl.1 rfl rfl (Nat.le_of_ble_eq_true rfl) dX1_set_3 ⟨Nat.le_of_ble_eq_true rfl, Nat.le_of_ble_eq_true rfl⟩ ⟨Nat.le_of_ble_eq_true rfl, Nat.le_of_ble_eq_true rfl⟩ (fun vq uq H locs hp hI => ?_)
    obtain ⟨rfl, hu⟩ := hp
    rw [hu] at hI
    clear hu
    refine kstk (b := .int _ :: []) rfl ?_
    refine lv_if_eq (tgt := 26) hx hb dX1_set_6 (by decide) (fun c6 => absurd c6 ((fun q => by rw [bI_z, g1] at q; cases q))) (fun c6 => ?_)
    refine lv_iload_n hx hb dX1_set_9 rfl (lv_at hl 2 rfl) ?_
    refine va_gets hx hb hZ1 hI.2.2 hown (hts _ flX1_67) (fun _ h9 => h9) dX1_set_10 ?_
    refine lv_iload_n hx hb dX1_set_13 rfl (lv_at hl 1 rfl) ?_
    refine va_ti (v := .int (lfS w)) hx hb hT1 hI.2.2 (vp_in_nI (show w < 6 by omega) (by decide)) (by rw [nI_clamp (by omega)]) dX1_set_14 ?_
    refine va_gets hx hb hZ2 hI.2.2 hown (hts _ flX1_70) (fun _ h9 => h9) dX1_set_15 ?_
    refine lv_iload_n hx hb dX1_set_18 rfl (lv_at hl 1 rfl) ?_
    refine va_ti (v := .int (gfS w)) hx hb hT2 hI.2.2 (vp_in_nI (show w < 6 by omega) (by decide)) (by rw [nI_clamp (by omega)]) dX1_set_19 ?_
    refine kcallS (rest := []) F hA hI (xc_isWithin l _ _ _ _) kgX1_73 hl.1 rfl rfl (Nat.le_of_ble_eq_true rfl) dX1_set_20 ⟨Nat.le_of_ble_eq_true rfl, Nat.le_of_ble_eq_true rfl⟩ ⟨Nat.le_of_ble_eq_true rfl, Nat.le_of_ble_eq_true rfl⟩ (fun vq uq H locs hp hI => ?_)
    obtain ⟨rfl, hu⟩ := hp
    rw [hu] at hI
    clear hu
    refine kstk (b := .int _ :: []) rfl ?_
    refine lv_if_ne (tgt := 28) hx hb dX1_set_23 (by decide) (fun c23 => absurd c23 ((fun q => q (bI_z.mpr h)))) (fun c23 => ?_)
    refine lv_iconst (v := -1) hx hb dX1_set_26 (by decide) ?_
    exact kret_i F hI dX1_set_27 (⟨rfl, rfl⟩)
theorem xc_set (st : XS) (w : Nat) (v : Int32) (hw : w < 6) (h : inR v (lfS w) (gfS w) = true) : kMZ l yX1_set cX1_set 4 (some .int) 1 22 0 0 D (xty K) (xw g K) [.ref (g 0), .int (nI w), .int v] st (fun r u => r = some (.int (st.1 1 w)) ∧ u = x_setR st w v) := by
  refine kMZ_intro (by decide) (Nat.le_of_ble_eq_true rfl) ?_
  intro p e s m below meth c A ls F hA hI hZ hl
  obtain ⟨hx, hb, hr, hml, hown, hts, hlk, hK, hnm⟩ := id F
  have hl : lv_has ls 4 [(0, .ref (g 0)), (1, .int (nI w)), (2, .int v)] := hl
  obtain ⟨t1, t2, hZ1, hT1, hZ2, hT2⟩ := hZ
  have g1 := isB_t (show w < 6 by omega) (by decide)
  have z0 : nI w = 0 ↔ w = 0 := nI_eq (b := 0) (by omega) (by decide)
  refine lv_iload_n hx hb dX1_set_0 rfl (lv_at hl 1 rfl) ?_
  refine lv_bipush (v := nI 6) hx hb dX1_set_1 (by decide) ?_
  refine kcallS (rest := []) F hA hI (xc_isBelow l _ _ _) kgX1_52 hl.1 rfl rfl (Nat.le_of_ble_eq_true rfl) dX1_set_3 ⟨Nat.le_of_ble_eq_true rfl, Nat.le_of_ble_eq_true rfl⟩ ⟨Nat.le_of_ble_eq_true rfl, Nat.le_of_ble_eq_true rfl⟩ (fun vq uq H locs hp hI => ?_)
  obtain ⟨rfl, hu⟩ := hp
  rw [hu] at hI
  clear hu
  refine kstk (b := .int _ :: []) rfl ?_
  refine lv_if_eq (tgt := 26) hx hb dX1_set_6 (by decide) (fun c6 => absurd c6 ((fun q => by rw [bI_z, g1] at q; cases q))) (fun c6 => ?_)
  refine lv_iload_n hx hb dX1_set_9 rfl (lv_at hl 2 rfl) ?_
  refine va_gets hx hb hZ1 hI.2.2 hown (hts _ flX1_67) (fun _ h9 => h9) dX1_set_10 ?_
  refine lv_iload_n hx hb dX1_set_13 rfl (lv_at hl 1 rfl) ?_
  refine va_ti (v := .int (lfS w)) hx hb hT1 hI.2.2 (vp_in_nI (show w < 6 by omega) (by decide)) (by rw [nI_clamp (by omega)]) dX1_set_14 ?_
  refine va_gets hx hb hZ2 hI.2.2 hown (hts _ flX1_70) (fun _ h9 => h9) dX1_set_15 ?_
  refine lv_iload_n hx hb dX1_set_18 rfl (lv_at hl 1 rfl) ?_
  refine va_ti (v := .int (gfS w)) hx hb hT2 hI.2.2 (vp_in_nI (show w < 6 by omega) (by decide)) (by rw [nI_clamp (by omega)]) dX1_set_19 ?_
  refine kcallS (rest := []) F hA hI (xc_isWithin l _ _ _ _) kgX1_73 hl.1 rfl rfl (Nat.le_of_ble_eq_true rfl) dX1_set_20 ⟨Nat.le_of_ble_eq_true rfl, Nat.le_of_ble_eq_true rfl⟩ ⟨Nat.le_of_ble_eq_true rfl, Nat.le_of_ble_eq_true rfl⟩ (fun vq uq H locs hp hI => ?_)
  obtain ⟨rfl, hu⟩ := hp
  rw [hu] at hI
  clear hu
  refine kstk (b := .int _ :: []) rfl ?_
  refine lv_if_ne (tgt := 28) hx hb dX1_set_23 (by decide) (fun c23 => ?_) (fun c23 => absurd c23 ((fun q => by rw [bI_z, h] at q; cases q)))
  refine lv_aload_n hx hb dX1_set_28 rfl (lv_at hl 0 rfl) ?_
  refine x_get F hI 1 (by decide) rfl flX1_22 dX1_set_29 ?_
  refine lv_iload_n hx hb dX1_set_32 rfl (lv_at hl 1 rfl) ?_
  refine x_ald F hI 1 (show w < 6 by omega) rfl dX1_set_33 ?_
  refine lv_istore_n (lv' := [(3, .int _), (0, .ref _), (1, .int _), (2, .int _)]) hx hb dX1_set_34 rfl hl (by decide) rfl (fun ls hl => ?_)
  refine lv_iload_n hx hb dX1_set_35 rfl (lv_at hl 2 rfl) ?_
  refine lv_if_ne (tgt := 48) hx hb dX1_set_36 (by decide) (fun c36 => ?_) (fun c36 => ?_)
  ·
    rw [z0] at c36
    refine lv_aload_n hx hb dX1_set_48 rfl (lv_at hl 1 rfl) ?_
    refine x_get F hI 1 (by decide) rfl flX1_22 dX1_set_49 ?_
    refine lv_iload_n hx hb dX1_set_52 rfl (lv_at hl 2 rfl) ?_
    refine lv_iload_n hx hb dX1_set_53 rfl (lv_at hl 3 rfl) ?_
    refine x_ast F hI 1 (show w < 6 by omega) rfl dX1_set_54 (fun H locs hI => ?_)
    refine lv_iload_n hx hb dX1_set_55 rfl (lv_at hl 0 rfl) ?_
    exact kret_i F hI dX1_set_56 (⟨rfl, by rw [x_setR, if_neg (fun q => c36 q.1)]⟩)
  ·
    rw [z0] at c36
    refine lv_iload_n hx hb dX1_set_39 rfl (lv_at hl 3 rfl) ?_
    refine lv_iload_n hx hb dX1_set_40 rfl (lv_at hl 0 rfl) ?_
    refine lv_icmp_eq (tgt := 48) hx hb dX1_set_41 (by decide) (fun c41 => ?_) (fun c41 => ?_)
    ·
      refine lv_aload_n hx hb dX1_set_48 rfl (lv_at hl 1 rfl) ?_
      refine x_get F hI 1 (by decide) rfl flX1_22 dX1_set_49 ?_
      refine lv_iload_n hx hb dX1_set_52 rfl (lv_at hl 2 rfl) ?_
      refine lv_iload_n hx hb dX1_set_53 rfl (lv_at hl 3 rfl) ?_
      refine x_ast F hI 1 (show w < 6 by omega) rfl dX1_set_54 (fun H locs hI => ?_)
      refine lv_iload_n hx hb dX1_set_55 rfl (lv_at hl 0 rfl) ?_
      exact kret_i F hI dX1_set_56 (⟨rfl, by rw [x_setR, if_neg (fun q => q.2 c41)]⟩)
    ·
      refine lv_aload_n hx hb dX1_set_44 rfl (lv_at hl 1 rfl) ?_
      refine kcallV (rest := []) F hA hI (xc_leave l _) kgX1_77 (x_rec F hI) hl.1 rfl rfl (Nat.le_of_ble_eq_true rfl) dX1_set_45 ⟨Nat.le_of_ble_eq_true rfl, Nat.le_of_ble_eq_true rfl⟩ ⟨Nat.le_of_ble_eq_true rfl, Nat.le_of_ble_eq_true rfl⟩ (fun vq uq H locs hp hI => ?_)
      obtain ⟨rfl, hu⟩ := hp
      rw [hu] at hI
      clear hu
      refine kstk (b := []) rfl ?_
      refine lv_aload_n hx hb dX1_set_48 rfl (lv_at hl 1 rfl) ?_
      refine x_get F hI 1 (by decide) rfl flX1_22 dX1_set_49 ?_
      refine lv_iload_n hx hb dX1_set_52 rfl (lv_at hl 2 rfl) ?_
      refine lv_iload_n hx hb dX1_set_53 rfl (lv_at hl 3 rfl) ?_
      refine x_ast F hI 1 (show w < 6 by omega) rfl dX1_set_54 (fun H locs hI => ?_)
      refine lv_iload_n hx hb dX1_set_55 rfl (lv_at hl 0 rfl) ?_
      exact kret_i F hI dX1_set_56 (⟨rfl, by rw [x_setR, if_pos ⟨c36, c41⟩]⟩)
end XC5
