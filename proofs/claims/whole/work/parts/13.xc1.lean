/-! the class: its call, its tests, homes -/
abbrev cf (st : XS) (a f : Nat) : Int32 := st.2.2.2.2 a f
def xinc (st : XS) (k i : Nat) : XS := xset st k i (st.1 k i + nI 1)
def xadd (st : XS) (k i : Nat) (v : Int32) : XS := xset st k i (st.1 k i + v)
def xsub (st : XS) (k i : Nat) (v : Int32) : XS := xset st k i (st.1 k i - v)
def x_up (st : XS) : Nat → Bool := fun k => decide (¬ st.1 0 k = 0)
def x_has (p : Int32) (pq : Nat) : Bool := decide (¬ p &&& (nI 1 <<< (nI pq &&& 31)) = 0)
def x_contr (last p : Int32) (pq : Nat) (il : Bool) : Bool := (decide (¬ last = -9) && decide (¬ nI pq ≤ last)) || ((il && decide (¬ p >>> (nI (pq + 1) &&& 31) = 0)) || (il && (decide (¬ last = -9) && decide (¬ last = nI pq))))
def x_whole (last p : Int32) : Bool := decide (¬ last = -9 ∧ p &&& (nI 2 <<< (last &&& 31) - nI 1) = nI 2 <<< (last &&& 31) - nI 1)
def xcor (st : XS) (a f : Nat) (v : Int32) : XS := xc st a f (cf st a f ||| v)
def xcad (st : XS) (a f : Nat) (v : Int32) : XS := xc st a f (cf st a f + v)
def x_add (st : XS) (a pq : Nat) (z : Int32) : XS := xcad (xcor st a 4 (nI 1 <<< (nI pq &&& 31))) a 5 z
def x_born (st : XS) (a : Nat) (n sh k t : Int32) : XS := xc (xc (xc (xc (xc (xc (xc (xc (xc (xc (xc (xc st a 4 (nI 0)) a 5 (nI 0)) a 6 (-9)) a 7 (nI 0)) a 8 (nI 0)) a 9 (nI 0)) a 10 (nI 0)) a 11 (nI 0)) a 0 n) a 1 sh) a 3 k) a 2 t
def x_stop (st : XS) (n : Nat) : XS := xsub (xrf st 0 n none) 2 1 (nI 1)
theorem sh1 : ∀ j, j < 31 → nI 1 <<< (nI j &&& 31) = nI (2 ^ j) := by decide
section XC1
variable (l : Launch) {D : va_G} {g : Nat → Nat} {K : Nat → ClassId}
theorem xc_isBelow (st : XS) (a b : Int32) : kM l yX1_isBelow cX1_isBelow 2 (some .boolean) 0 0 0 0 D (xty K) (xw g K) [.int a, .int b] st (fun v u => v = some (.int (bI (decide (¬ a < 0 ∧ ¬ b ≤ a)))) ∧ u = st) := by
  refine kM_intro (by decide) (Nat.le_of_ble_eq_true rfl) ?_
  intro p e s m below meth c A ls F hA hI hl
  obtain ⟨hx, hb, hr, hml, hown, hts, hlk, hK, hnm⟩ := id F
  have hl : lv_has ls 2 [(0, .int a), (1, .int b)] := hl
  refine lv_iload_n hx hb dX1_isBelow_0 rfl (lv_at hl 0 rfl) ?_
  refine lv_if_lt (tgt := 13) hx hb dX1_isBelow_1 (by decide) (fun c1 => ?_) (fun c1 => ?_)
  ·
    refine lv_iconst (v := nI 0) hx hb dX1_isBelow_13 (by decide) ?_
    exact kret_z F hI dX1_isBelow_14 (by decide) (⟨by simp [bI, c1], rfl⟩)
  ·
    refine lv_iload_n hx hb dX1_isBelow_4 rfl (lv_at hl 0 rfl) ?_
    refine lv_iload_n hx hb dX1_isBelow_5 rfl (lv_at hl 1 rfl) ?_
    refine lv_icmp_ge (tgt := 13) hx hb dX1_isBelow_6 (by decide) (fun c6 => ?_) (fun c6 => ?_)
    ·
      refine lv_iconst (v := nI 0) hx hb dX1_isBelow_13 (by decide) ?_
      exact kret_z F hI dX1_isBelow_14 (by decide) (⟨by simp [bI, c1, c6], rfl⟩)
    ·
      refine lv_iconst (v := nI 1) hx hb dX1_isBelow_9 (by decide) ?_
      refine lv_goto (tgt := 14) hx hb dX1_isBelow_10 (by decide) ?_
      exact kret_z F hI dX1_isBelow_14 (by decide) (⟨by simp [bI, c1, c6], rfl⟩)
theorem xc_isWithin (st : XS) (a b c : Int32) : kM l yX1_isWithin cX1_isWithin 3 (some .boolean) 0 0 0 0 D (xty K) (xw g K) [.int a, .int b, .int c] st (fun v u => v = some (.int (bI (inR a b c))) ∧ u = st) := by
  refine kM_intro (by decide) (Nat.le_of_ble_eq_true rfl) ?_
  intro p e s m below meth c' A ls F hA hI hl
  obtain ⟨hx, hb, hr, hml, hown, hts, hlk, hK, hnm⟩ := id F
  have hl : lv_has ls 3 [(0, .int a), (1, .int b), (2, .int c)] := hl
  refine lv_iload_n hx hb dX1_isWithin_0 rfl (lv_at hl 0 rfl) ?_
  refine lv_iload_n hx hb dX1_isWithin_1 rfl (lv_at hl 1 rfl) ?_
  refine lv_icmp_lt (tgt := 14) hx hb dX1_isWithin_2 (by decide) (fun c2 => ?_) (fun c2 => ?_)
  ·
    refine lv_iconst (v := nI 0) hx hb dX1_isWithin_14 (by decide) ?_
    exact kret_z F hI dX1_isWithin_15 (by decide) (⟨by simp [inR, bI, c2], rfl⟩)
  ·
    refine lv_iload_n hx hb dX1_isWithin_5 rfl (lv_at hl 0 rfl) ?_
    refine lv_iload_n hx hb dX1_isWithin_6 rfl (lv_at hl 2 rfl) ?_
    refine lv_icmp_gt (tgt := 14) hx hb dX1_isWithin_7 (by decide) (fun c7 => ?_) (fun c7 => ?_)
    ·
      refine lv_iconst (v := nI 0) hx hb dX1_isWithin_14 (by decide) ?_
      exact kret_z F hI dX1_isWithin_15 (by decide) (⟨by simp [inR, bI, c2, c7], rfl⟩)
    ·
      refine lv_iconst (v := nI 1) hx hb dX1_isWithin_10 (by decide) ?_
      refine lv_goto (tgt := 15) hx hb dX1_isWithin_11 (by decide) ?_
      exact kret_z F hI dX1_isWithin_15 (by decide) (⟨by simp [inR, bI, c2, c7], rfl⟩)
theorem xc_has (st : XS) (a pq : Nat) (ha : a ∈ st.2.2.2.1) : kM l yX0_has cX0_has 2 (some .boolean) 0 0 0 0 D (xty K) (xw g K) [.ref a, .int (nI pq)] st (fun v u => v = some (.int (bI (x_has (cf st a 4) pq))) ∧ u = st) := by
  refine kM_intro (by decide) (Nat.le_of_ble_eq_true rfl) ?_
  intro p e s m below meth c A ls F hA hI hl
  obtain ⟨hx, hb, hr, hml, hown, hts, hlk, hK, hnm⟩ := id F
  have hl : lv_has ls 2 [(0, .ref a), (1, .int (nI pq))] := hl
  refine lv_aload_n hx hb dX0_has_0 rfl (lv_at hl 0 rfl) ?_
  refine x_cget F hI ha 4 (by decide) rfl flX0_9 dX0_has_1 ?_
  refine lv_iconst (v := nI 1) hx hb dX0_has_4 (by decide) ?_
  refine lv_iload_n hx hb dX0_has_5 rfl (lv_at hl 1 rfl) ?_
  refine lv_ishl hx hb dX0_has_6 ?_
  refine lv_iand hx hb dX0_has_7 ?_
  refine lv_if_eq (tgt := 15) hx hb dX0_has_8 (by decide) (fun c8 => ?_) (fun c8 => ?_)
  ·
    refine lv_iconst (v := nI 0) hx hb dX0_has_15 (by decide) ?_
    exact kret_z F hI dX0_has_16 (by decide) (⟨by simp [x_has, bI, c8], rfl⟩)
  ·
    refine lv_iconst (v := nI 1) hx hb dX0_has_11 (by decide) ?_
    refine lv_goto (tgt := 16) hx hb dX0_has_12 (by decide) ?_
    exact kret_z F hI dX0_has_16 (by decide) (⟨by simp [x_has, bI, c8], rfl⟩)
theorem xc_add (st : XS) (a pq : Nat) (z : Int32) (ha : a ∈ st.2.2.2.1) : kM l yX0_add cX0_add 3 none 0 0 0 0 D (xty K) (xw g K) [.ref a, .int (nI pq), .int z] st (fun v u => v = none ∧ u = x_add st a pq z) := by
  refine kM_intro (by decide) (Nat.le_of_ble_eq_true rfl) ?_
  intro p e s m below meth c A ls F hA hI hl
  obtain ⟨hx, hb, hr, hml, hown, hts, hlk, hK, hnm⟩ := id F
  have hl : lv_has ls 3 [(0, .ref a), (1, .int (nI pq)), (2, .int z)] := hl
  refine lv_aload_n hx hb dX0_add_0 rfl (lv_at hl 0 rfl) ?_
  refine lv_dup hx hb dX0_add_1 rfl ?_
  refine x_cget F hI ha 4 (by decide) rfl flX0_9 dX0_add_2 ?_
  refine lv_iconst (v := nI 1) hx hb dX0_add_5 (by decide) ?_
  refine lv_iload_n hx hb dX0_add_6 rfl (lv_at hl 1 rfl) ?_
  refine lv_ishl hx hb dX0_add_7 ?_
  refine lv_ior hx hb dX0_add_8 ?_
  refine x_cput (ty := .int) F hI ha 4 (by decide) rfl flX0_9 (by decide +kernel) rfl rfl rfl dX0_add_9 (fun H locs hI => ?_)
  have hI : kI D _ A s.heap (xcor st a 4 (nI 1 <<< (nI pq &&& 31))) H locs := hI
  generalize hS9 : xcor st a 4 (nI 1 <<< (nI pq &&& 31)) = S9 at hI
  have ha : a ∈ S9.2.2.2.1 := by rw [← hS9]; exact ha
  refine lv_aload_n hx hb dX0_add_12 rfl (lv_at hl 0 rfl) ?_
  refine lv_dup hx hb dX0_add_13 rfl ?_
  refine x_cget F hI ha 5 (by decide) rfl flX0_15 dX0_add_14 ?_
  refine lv_iload_n hx hb dX0_add_17 rfl (lv_at hl 2 rfl) ?_
  refine lv_iadd hx hb dX0_add_18 ?_
  refine x_cput (ty := .int) F hI ha 5 (by decide) rfl flX0_15 (by decide +kernel) rfl rfl rfl dX0_add_19 (fun H locs hI => ?_)
  have hI : kI D _ A s.heap (xcad S9 a 5 z) H locs := hI
  generalize hS19 : xcad S9 a 5 z = S19 at hI
  exact kret_v F hI dX0_add_22 (⟨rfl, by rw [x_add, hS9, hS19]⟩)
theorem xc_isWhole (st : XS) (a : Nat) (ha : a ∈ st.2.2.2.1) : kM l yX0_isWhole cX0_isWhole 2 (some .boolean) 0 0 0 0 D (xty K) (xw g K) [.ref a] st (fun v u => v = some (.int (bI (x_whole (cf st a 6) (cf st a 4)))) ∧ u = st) := by
  refine kM_intro (by decide) (Nat.le_of_ble_eq_true rfl) ?_
  intro p e s m below meth c A ls F hA hI hl
  obtain ⟨hx, hb, hr, hml, hown, hts, hlk, hK, hnm⟩ := id F
  have hl : lv_has ls 2 [(0, .ref a)] := hl
  refine lv_aload_n hx hb dX0_isWhole_0 rfl (lv_at hl 0 rfl) ?_
  refine x_cget F hI ha 6 (by decide) rfl flX0_18 dX0_isWhole_1 ?_
  refine lv_bipush (v := -9) hx hb dX0_isWhole_4 (by decide) ?_
  refine lv_icmp_ne (tgt := 11) hx hb dX0_isWhole_6 (by decide) (fun c6 => ?_) (fun c6 => ?_)
  ·
    refine lv_iconst (v := nI 2) hx hb dX0_isWhole_11 (by decide) ?_
    refine lv_aload_n hx hb dX0_isWhole_12 rfl (lv_at hl 0 rfl) ?_
    refine x_cget F hI ha 6 (by decide) rfl flX0_18 dX0_isWhole_13 ?_
    refine lv_ishl hx hb dX0_isWhole_16 ?_
    refine lv_iconst (v := nI 1) hx hb dX0_isWhole_17 (by decide) ?_
    refine lv_isub hx hb dX0_isWhole_18 ?_
    refine lv_istore_n (lv' := [(1, .int _), (0, .ref _)]) hx hb dX0_isWhole_19 rfl hl (by decide) rfl (fun ls hl => ?_)
    refine lv_aload_n hx hb dX0_isWhole_20 rfl (lv_at hl 1 rfl) ?_
    refine x_cget F hI ha 4 (by decide) rfl flX0_9 dX0_isWhole_21 ?_
    refine lv_iload_n hx hb dX0_isWhole_24 rfl (lv_at hl 0 rfl) ?_
    refine lv_iand hx hb dX0_isWhole_25 ?_
    refine lv_iload_n hx hb dX0_isWhole_26 rfl (lv_at hl 0 rfl) ?_
    refine lv_icmp_ne (tgt := 34) hx hb dX0_isWhole_27 (by decide) (fun c27 => ?_) (fun c27 => ?_)
    ·
      refine lv_iconst (v := nI 0) hx hb dX0_isWhole_34 (by decide) ?_
      exact kret_z F hI dX0_isWhole_35 (by decide) (⟨by simp [x_whole, bI, c6, c27], rfl⟩)
    ·
      refine lv_iconst (v := nI 1) hx hb dX0_isWhole_30 (by decide) ?_
      refine lv_goto (tgt := 35) hx hb dX0_isWhole_31 (by decide) ?_
      exact kret_z F hI dX0_isWhole_35 (by decide) (⟨by simp [x_whole, bI, c6, c27], rfl⟩)
  ·
    refine lv_iconst (v := nI 0) hx hb dX0_isWhole_9 (by decide) ?_
    exact kret_z F hI dX0_isWhole_10 (by decide) (⟨by simp [x_whole, bI, c6], rfl⟩)
theorem xc_contr (st : XS) (a pq : Nat) (il : Bool) (ha : a ∈ st.2.2.2.1) : kM l yX0_contradicts cX0_contradicts 6 (some .boolean) 0 0 0 0 D (xty K) (xw g K) [.ref a, .int (nI pq), .int (bI il)] st (fun v u => v = some (.int (bI (x_contr (st.2.2.2.2 a 6) (st.2.2.2.2 a 4) pq il))) ∧ u = st) := by
  refine kM_intro (by decide) (Nat.le_of_ble_eq_true rfl) ?_
  intro p e s m below meth c A ls F hA hI hl
  obtain ⟨hx, hb, hr, hml, hown, hts, hlk, hK, hnm⟩ := id F
  have hl : lv_has ls 6 [(0, .ref a), (1, .int (nI pq)), (2, .int (bI il))] := hl
  have h73 : ∀ (x y w : Bool) (H : Heap) (locs : List Loc) (ls : Array Slot), kI D (xw g K) A s.heap st H locs → x_contr (st.2.2.2.2 a 6) (st.2.2.2.2 a 4) pq il = (x || (y || w)) → lv_has ls 6 [(5, .int (bI w)), (4, .int (bI y)), (3, .int (bI x)), (0, .ref a), (1, .int (nI pq)), (2, .int (bI il))] → W p l e { frames := 0, cells := 0, slots := 0, locals := 0 } s m #[.ref a, .int (nI pq), .int (bI il)] below meth c H locs 0 0 (MQ below (kQ D (xty K) (xw g K) (fun v u => v = some (.int (bI (x_contr (st.2.2.2.2 a 6) (st.2.2.2.2 a 4) pq il))) ∧ u = st) A) #[.ref a, .int (nI pq), .int (bI il)] s 0 0 A) (F0 m 73 ls []) := by
    intro x y w H locs ls hI he hl
    refine lv_iload_n hx hb dX0_contradicts_73 rfl (lv_at hl 2 rfl) ?_
    refine lv_if_ne (tgt := 87) hx hb dX0_contradicts_74 (by decide) (fun c74 => ?_) (fun c74 => ?_)
    ·
      rw [bI_z] at c74
      refine lv_iconst (v := nI 1) hx hb dX0_contradicts_87 (by decide) ?_
      refine lv_goto (tgt := 92) hx hb dX0_contradicts_88 (by decide) ?_
      exact kret_z F hI dX0_contradicts_92 (by decide) (⟨by rw [he]; simp at c74; simp [c74, bI], rfl⟩)
    ·
      rw [bI_z] at c74
      refine lv_iload hx hb dX0_contradicts_77 (lv_at hl 1 rfl) ?_
      refine lv_if_ne (tgt := 87) hx hb dX0_contradicts_79 (by decide) (fun c79 => ?_) (fun c79 => ?_)
      ·
        rw [bI_z] at c79
        refine lv_iconst (v := nI 1) hx hb dX0_contradicts_87 (by decide) ?_
        refine lv_goto (tgt := 92) hx hb dX0_contradicts_88 (by decide) ?_
        exact kret_z F hI dX0_contradicts_92 (by decide) (⟨by rw [he]; simp at c79; simp [c79, bI], rfl⟩)
      ·
        rw [bI_z] at c79
        refine lv_iload hx hb dX0_contradicts_82 (lv_at hl 0 rfl) ?_
        refine lv_if_eq (tgt := 91) hx hb dX0_contradicts_84 (by decide) (fun c84 => ?_) (fun c84 => ?_)
        ·
          rw [bI_z] at c84
          refine lv_iconst (v := nI 0) hx hb dX0_contradicts_91 (by decide) ?_
          exact kret_z F hI dX0_contradicts_92 (by decide) (⟨by rw [he]; simp [c74, c79, c84, bI], rfl⟩)
        ·
          rw [bI_z] at c84
          refine lv_iconst (v := nI 1) hx hb dX0_contradicts_87 (by decide) ?_
          refine lv_goto (tgt := 92) hx hb dX0_contradicts_88 (by decide) ?_
          exact kret_z F hI dX0_contradicts_92 (by decide) (⟨by rw [he]; simp at c84; simp [c84, bI], rfl⟩)
  have h45 : ∀ (x y : Bool) (H : Heap) (locs : List Loc) (ls : Array Slot), kI D (xw g K) A s.heap st H locs → x = (decide (¬ cf st a 6 = -9) && decide (¬ nI pq ≤ cf st a 6)) → y = (il && decide (¬ cf st a 4 >>> (nI (pq + 1) &&& 31) = 0)) → lv_has ls 6 [(4, .int (bI y)), (3, .int (bI x)), (0, .ref a), (1, .int (nI pq)), (2, .int (bI il))] → W p l e { frames := 0, cells := 0, slots := 0, locals := 0 } s m #[.ref a, .int (nI pq), .int (bI il)] below meth c H locs 0 0 (MQ below (kQ D (xty K) (xw g K) (fun v u => v = some (.int (bI (x_contr (st.2.2.2.2 a 6) (st.2.2.2.2 a 4) pq il))) ∧ u = st) A) #[.ref a, .int (nI pq), .int (bI il)] s 0 0 A) (F0 m 45 ls []) := by
    intro x y H locs ls hI hx1 hy1 hl
    refine lv_iload_n hx hb dX0_contradicts_45 rfl (lv_at hl 4 rfl) ?_
    refine lv_if_eq (tgt := 70) hx hb dX0_contradicts_46 (by decide) (fun c46 => ?_) (fun c46 => ?_)
    ·
      rw [bI_z] at c46
      refine lv_iconst (v := nI 0) hx hb dX0_contradicts_70 (by decide) ?_
      refine lv_istore (lv' := [(5, .int _), (4, .int _), (3, .int _), (0, .ref _), (1, .int _), (2, .int _)]) hx hb dX0_contradicts_71 hl (by decide) rfl (fun ls hl => ?_)
      exact h73 x y false _ _ _ hI (by rw [hx1, hy1]; simp [x_contr, c46]) (lv_sub hl [0, 1, 2, 3, 4, 5] rfl)
    ·
      rw [bI_z] at c46
      refine lv_aload_n hx hb dX0_contradicts_49 rfl (lv_at hl 2 rfl) ?_
      refine x_cget F hI ha 6 (by decide) rfl flX0_18 dX0_contradicts_50 ?_
      refine lv_bipush (v := -9) hx hb dX0_contradicts_53 (by decide) ?_
      refine lv_icmp_eq (tgt := 70) hx hb dX0_contradicts_55 (by decide) (fun c55 => ?_) (fun c55 => ?_)
      ·
        refine lv_iconst (v := nI 0) hx hb dX0_contradicts_70 (by decide) ?_
        refine lv_istore (lv' := [(5, .int _), (4, .int _), (3, .int _), (0, .ref _), (1, .int _), (2, .int _)]) hx hb dX0_contradicts_71 hl (by decide) rfl (fun ls hl => ?_)
        exact h73 x y false _ _ _ hI (by rw [hx1, hy1]; simp [x_contr, c55]) (lv_sub hl [0, 1, 2, 3, 4, 5] rfl)
      ·
        refine lv_aload_n hx hb dX0_contradicts_58 rfl (lv_at hl 2 rfl) ?_
        refine x_cget F hI ha 6 (by decide) rfl flX0_18 dX0_contradicts_59 ?_
        refine lv_iload_n hx hb dX0_contradicts_62 rfl (lv_at hl 3 rfl) ?_
        refine lv_icmp_eq (tgt := 70) hx hb dX0_contradicts_63 (by decide) (fun c63 => ?_) (fun c63 => ?_)
        ·
          refine lv_iconst (v := nI 0) hx hb dX0_contradicts_70 (by decide) ?_
          refine lv_istore (lv' := [(5, .int _), (4, .int _), (3, .int _), (0, .ref _), (1, .int _), (2, .int _)]) hx hb dX0_contradicts_71 hl (by decide) rfl (fun ls hl => ?_)
          exact h73 x y false _ _ _ hI (by rw [hx1, hy1]; simp [x_contr, c63]) (lv_sub hl [0, 1, 2, 3, 4, 5] rfl)
        ·
          refine lv_iconst (v := nI 1) hx hb dX0_contradicts_66 (by decide) ?_
          refine lv_goto (tgt := 71) hx hb dX0_contradicts_67 (by decide) ?_
          refine lv_istore (lv' := [(5, .int _), (4, .int _), (3, .int _), (0, .ref _), (1, .int _), (2, .int _)]) hx hb dX0_contradicts_71 hl (by decide) rfl (fun ls hl => ?_)
          exact h73 x y true _ _ _ hI (by rw [hx1, hy1]; simp at c46; simp [x_contr, c46, c55, c63]) (lv_sub hl [0, 1, 2, 3, 4, 5] rfl)
  have h23 : ∀ (x : Bool) (H : Heap) (locs : List Loc) (ls : Array Slot), kI D (xw g K) A s.heap st H locs → x = (decide (¬ cf st a 6 = -9) && decide (¬ nI pq ≤ cf st a 6)) → lv_has ls 6 [(3, .int (bI x)), (0, .ref a), (1, .int (nI pq)), (2, .int (bI il))] → W p l e { frames := 0, cells := 0, slots := 0, locals := 0 } s m #[.ref a, .int (nI pq), .int (bI il)] below meth c H locs 0 0 (MQ below (kQ D (xty K) (xw g K) (fun v u => v = some (.int (bI (x_contr (st.2.2.2.2 a 6) (st.2.2.2.2 a 4) pq il))) ∧ u = st) A) #[.ref a, .int (nI pq), .int (bI il)] s 0 0 A) (F0 m 23 ls []) := by
    intro x H locs ls hI hx1 hl
    refine lv_iload_n hx hb dX0_contradicts_23 rfl (lv_at hl 3 rfl) ?_
    refine lv_if_eq (tgt := 42) hx hb dX0_contradicts_24 (by decide) (fun c24 => ?_) (fun c24 => ?_)
    ·
      rw [bI_z] at c24
      refine lv_iconst (v := nI 0) hx hb dX0_contradicts_42 (by decide) ?_
      refine lv_istore (lv' := [(4, .int _), (3, .int _), (0, .ref _), (1, .int _), (2, .int _)]) hx hb dX0_contradicts_43 hl (by decide) rfl (fun ls hl => ?_)
      exact h45 x false _ _ _ hI hx1 (by simp [c24]) (lv_sub hl [0, 1, 2, 3, 4] rfl)
    ·
      rw [bI_z] at c24
      refine lv_aload_n hx hb dX0_contradicts_27 rfl (lv_at hl 1 rfl) ?_
      refine x_cget F hI ha 4 (by decide) rfl flX0_9 dX0_contradicts_28 ?_
      refine lv_iload_n hx hb dX0_contradicts_31 rfl (lv_at hl 2 rfl) ?_
      refine lv_iconst (v := nI 1) hx hb dX0_contradicts_32 (by decide) ?_
      refine lv_iadd hx hb dX0_contradicts_33 ?_
      refine ktop (y := nI (pq + 1)) (nI_add _ _) ?_
      refine lv_ishr hx hb dX0_contradicts_34 ?_
      refine lv_if_eq (tgt := 42) hx hb dX0_contradicts_35 (by decide) (fun c35 => ?_) (fun c35 => ?_)
      ·
        refine lv_iconst (v := nI 0) hx hb dX0_contradicts_42 (by decide) ?_
        refine lv_istore (lv' := [(4, .int _), (3, .int _), (0, .ref _), (1, .int _), (2, .int _)]) hx hb dX0_contradicts_43 hl (by decide) rfl (fun ls hl => ?_)
        exact h45 x false _ _ _ hI hx1 (by simp [c35]) (lv_sub hl [0, 1, 2, 3, 4] rfl)
      ·
        refine lv_iconst (v := nI 1) hx hb dX0_contradicts_38 (by decide) ?_
        refine lv_goto (tgt := 43) hx hb dX0_contradicts_39 (by decide) ?_
        refine lv_istore (lv' := [(4, .int _), (3, .int _), (0, .ref _), (1, .int _), (2, .int _)]) hx hb dX0_contradicts_43 hl (by decide) rfl (fun ls hl => ?_)
        exact h45 x true _ _ _ hI hx1 (by simp at c24; simp [c24, c35]) (lv_sub hl [0, 1, 2, 3, 4] rfl)
  refine lv_aload_n hx hb dX0_contradicts_0 rfl (lv_at hl 0 rfl) ?_
  refine x_cget F hI ha 6 (by decide) rfl flX0_18 dX0_contradicts_1 ?_
  refine lv_bipush (v := -9) hx hb dX0_contradicts_4 (by decide) ?_
  refine lv_icmp_eq (tgt := 21) hx hb dX0_contradicts_6 (by decide) (fun c6 => ?_) (fun c6 => ?_)
  ·
    refine lv_iconst (v := nI 0) hx hb dX0_contradicts_21 (by decide) ?_
    refine lv_istore_n (lv' := [(3, .int _), (0, .ref _), (1, .int _), (2, .int _)]) hx hb dX0_contradicts_22 rfl hl (by decide) rfl (fun ls hl => ?_)
    exact h23 false _ _ _ hI (by simp [c6]) (lv_sub hl [0, 1, 2, 3] rfl)
  ·
    refine lv_iload_n hx hb dX0_contradicts_9 rfl (lv_at hl 1 rfl) ?_
    refine lv_aload_n hx hb dX0_contradicts_10 rfl (lv_at hl 0 rfl) ?_
    refine x_cget F hI ha 6 (by decide) rfl flX0_18 dX0_contradicts_11 ?_
    refine lv_icmp_le (tgt := 21) hx hb dX0_contradicts_14 (by decide) (fun c14 => ?_) (fun c14 => ?_)
    ·
      refine lv_iconst (v := nI 0) hx hb dX0_contradicts_21 (by decide) ?_
      refine lv_istore_n (lv' := [(3, .int _), (0, .ref _), (1, .int _), (2, .int _)]) hx hb dX0_contradicts_22 rfl hl (by decide) rfl (fun ls hl => ?_)
      exact h23 false _ _ _ hI (by simp [c14]) (lv_sub hl [0, 1, 2, 3] rfl)
    ·
      refine lv_iconst (v := nI 1) hx hb dX0_contradicts_17 (by decide) ?_
      refine lv_goto (tgt := 22) hx hb dX0_contradicts_18 (by decide) ?_
      refine lv_istore_n (lv' := [(3, .int _), (0, .ref _), (1, .int _), (2, .int _)]) hx hb dX0_contradicts_22 rfl hl (by decide) rfl (fun ls hl => ?_)
      exact h23 true _ _ _ hI (by simp [c6, c14]) (lv_sub hl [0, 1, 2, 3] rfl)
theorem xc_homeOf (st : XS) (n : Nat) (hn : n < 100) : kM l yX1_homeOf cX1_homeOf 6 (some .int) 0 0 0 0 D (xty K) (xw g K) [.ref (g 0), .int (nI n)] st (fun v u => v = some (.int (hm (x_up st) n)) ∧ u = st) := by
  refine kM_intro (by decide) (Nat.le_of_ble_eq_true rfl) ?_
  intro p e s m below meth c A ls F hA hI hl
  obtain ⟨hx, hb, hr, hml, hown, hts, hlk, hK, hnm⟩ := id F
  have hl : lv_has ls 6 [(0, .ref (g 0)), (1, .int (nI n))] := hl
  refine lv_bipush (v := -9) hx hb dX1_homeOf_0 (by decide) ?_
  refine lv_istore_n (lv' := [(2, .int _), (0, .ref _), (1, .int _)]) hx hb dX1_homeOf_2 rfl hl (by decide) rfl (fun ls hl => ?_)
  refine lv_iconst (v := -1) hx hb dX1_homeOf_3 (by decide) ?_
  refine lv_istore_n (lv' := [(3, .int _), (2, .int _), (0, .ref _), (1, .int _)]) hx hb dX1_homeOf_4 rfl hl (by decide) rfl (fun ls hl => ?_)
  refine lv_iconst (v := nI 0) hx hb dX1_homeOf_5 (by decide) ?_
  refine lv_istore (lv' := [(4, .int _), (3, .int _), (2, .int _), (0, .ref _), (1, .int _)]) hx hb dX1_homeOf_6 hl (by decide) rfl (fun ls hl => ?_)
  refine wloop (σ := Nat × Nat × Int32 × Int32) (fun x => x.1) (fun x H locs ls => x.2.1 + x.1 = 4 ∧ hmL (x_up st) n x.1 x.2.1 x.2.2.1 x.2.2.2 = hm (x_up st) n ∧ kI D (xw g K) A s.heap st H locs ∧ lv_has ls 6 [(4, .int (nI x.2.1)), (3, .int x.2.2.2), (2, .int x.2.2.1), (0, .ref (g 0)), (1, .int (nI n))]) ?_ (4, 0, -9, -1) _ _ _ ⟨rfl, rfl, hI, lv_sub hl [0, 1, 2, 3, 4] rfl⟩
  rintro ⟨f, k, b, t⟩ H locs ls ⟨hk, he, hI, hl⟩ ih
  dsimp only at hk he hI hl ih
  refine lv_iload hx hb dX1_homeOf_8 (lv_at hl 0 rfl) ?_
  refine lv_iconst (v := nI 4) hx hb dX1_homeOf_10 (by decide) ?_
  refine lv_icmp_ge (tgt := 56) hx hb dX1_homeOf_11 (by decide) (fun c11 => ?_) (fun c11 => ?_)
  ·
    rw [nI_leI (by omega) (by omega)] at c11
    obtain rfl : f = 0 := by omega
    refine lv_iload_n hx hb dX1_homeOf_56 rfl (lv_at hl 2 rfl) ?_
    exact kret_i F hI dX1_homeOf_57 (⟨by rw [← he]; rfl, rfl⟩)
  ·
    rw [nI_leI (by omega) (by omega)] at c11
    obtain ⟨f, rfl⟩ : ∃ f', f = f' + 1 := ⟨f - 1, by omega⟩
    refine lv_bipush (v := nI 7) hx hb dX1_homeOf_14 (by decide) ?_
    refine lv_iload_n hx hb dX1_homeOf_16 rfl (lv_at hl 4 rfl) ?_
    refine lv_imul hx hb dX1_homeOf_17 ?_
    refine ktop (y := nI (7 * n)) (pk_mul _ _) ?_
    refine lv_iconst (v := nI 5) hx hb dX1_homeOf_18 (by decide) ?_
    refine lv_iload hx hb dX1_homeOf_19 (lv_at hl 0 rfl) ?_
    refine lv_imul hx hb dX1_homeOf_21 ?_
    refine ktop (y := nI (5 * k)) (pk_mul _ _) ?_
    refine lv_iadd hx hb dX1_homeOf_22 ?_
    refine ktop (y := nI ((7 * n) + (5 * k))) (nI_add _ _) ?_
    refine lv_bipush (v := nI 11) hx hb dX1_homeOf_23 (by decide) ?_
    refine lv_irem hx hb dX1_homeOf_25 (by decide) ?_
    refine ktop (y := nI ((7 * n + 5 * k) % 11)) (by exact pk_rem (by omega) (by omega) (by omega)) ?_
    refine lv_istore (lv' := [(5, .int _), (4, .int _), (3, .int _), (2, .int _), (0, .ref _), (1, .int _)]) hx hb dX1_homeOf_26 hl (by decide) rfl (fun ls hl => ?_)
    refine lv_aload_n hx hb dX1_homeOf_28 rfl (lv_at hl 4 rfl) ?_
    refine x_get F hI 0 (by decide) rfl flX1_9 dX1_homeOf_29 ?_
    refine lv_iload hx hb dX1_homeOf_32 (lv_at hl 1 rfl) ?_
    refine x_zald F hI 0 (show k < 4 by omega) rfl dX1_homeOf_34 ?_
    refine lv_if_eq (tgt := 50) hx hb dX1_homeOf_35 (by decide) (fun c35 => ?_) (fun c35 => ?_)
    ·
      refine lv_iinc (v := nI (k + 1)) (lv' := [(4, .int _), (5, .int _), (3, .int _), (2, .int _), (0, .ref _), (1, .int _)]) hx hb dX1_homeOf_50 hl (k := 1) rfl (kinc _ 1) (by decide) rfl (fun ls hl => ?_)
      refine lv_goto (tgt := 8) hx hb dX1_homeOf_53 (by decide) ?_
      exact ih (f, k + 1, b, t) _ _ _ (by show f < f + 1; omega) ⟨by show k + 1 + f = 4; omega, by rw [← he]; simp [hmL, x_up, c35], hI, lv_sub hl [0, 2, 3, 4, 5] rfl⟩
    ·
      refine lv_iload hx hb dX1_homeOf_38 (lv_at hl 0 rfl) ?_
      refine lv_iload_n hx hb dX1_homeOf_40 rfl (lv_at hl 2 rfl) ?_
      refine lv_icmp_le (tgt := 50) hx hb dX1_homeOf_41 (by decide) (fun c41 => ?_) (fun c41 => ?_)
      ·
        refine lv_iinc (v := nI (k + 1)) (lv' := [(4, .int _), (5, .int _), (3, .int _), (2, .int _), (0, .ref _), (1, .int _)]) hx hb dX1_homeOf_50 hl (k := 1) rfl (kinc _ 1) (by decide) rfl (fun ls hl => ?_)
        refine lv_goto (tgt := 8) hx hb dX1_homeOf_53 (by decide) ?_
        exact ih (f, k + 1, b, t) _ _ _ (by show f < f + 1; omega) ⟨by show k + 1 + f = 4; omega, by rw [← he]; simp [hmL, x_up, c35, c41], hI, lv_sub hl [0, 2, 3, 4, 5] rfl⟩
      ·
        refine lv_iload hx hb dX1_homeOf_44 (lv_at hl 1 rfl) ?_
        refine lv_istore_n (lv' := [(2, .int _), (5, .int _), (4, .int _), (3, .int _), (0, .ref _), (1, .int _)]) hx hb dX1_homeOf_46 rfl hl (by decide) rfl (fun ls hl => ?_)
        refine lv_iload hx hb dX1_homeOf_47 (lv_at hl 1 rfl) ?_
        refine lv_istore_n (lv' := [(3, .int _), (2, .int _), (5, .int _), (4, .int _), (0, .ref _), (1, .int _)]) hx hb dX1_homeOf_49 rfl hl (by decide) rfl (fun ls hl => ?_)
        refine lv_iinc (v := nI (k + 1)) (lv' := [(4, .int _), (3, .int _), (2, .int _), (5, .int _), (0, .ref _), (1, .int _)]) hx hb dX1_homeOf_50 hl (k := 3) rfl (kinc _ 1) (by decide) rfl (fun ls hl => ?_)
        refine lv_goto (tgt := 8) hx hb dX1_homeOf_53 (by decide) ?_
        exact ih (f, k + 1, nI k, nI ((7 * n + 5 * k) % 11)) _ _ _ (by show f < f + 1; omega) ⟨by show k + 1 + f = 4; omega, by rw [← he]; simp [hmL, x_up, c35, c41], hI, lv_sub hl [0, 1, 2, 4, 5] rfl⟩
theorem xc_stop (st : XS) (a n : Nat) (ha : a ∈ st.2.2.2.1) (hn : n < 100) (h0 : cf st a 0 = nI n) : kM l yX1_stopWaiting cX1_stopWaiting 2 none 0 0 0 0 D (xty K) (xw g K) [.ref (g 0), .ref a] st (fun v u => v = none ∧ u = x_stop st n) := by
  refine kM_intro (by decide) (Nat.le_of_ble_eq_true rfl) ?_
  intro p e s m below meth c A ls F hA hI hl
  obtain ⟨hx, hb, hr, hml, hown, hts, hlk, hK, hnm⟩ := id F
  have hl : lv_has ls 2 [(0, .ref (g 0)), (1, .ref a)] := hl
  refine lv_aload_n hx hb dX1_stopWaiting_0 rfl (lv_at hl 0 rfl) ?_
  refine x_get F hI 5 (by decide) rfl flX1_38 dX1_stopWaiting_1 ?_
  refine lv_aload_n hx hb dX1_stopWaiting_4 rfl (lv_at hl 1 rfl) ?_
  refine x_cget F hI ha 0 (by decide) rfl flX1_131 dX1_stopWaiting_5 ?_
  refine ktop (y := nI (n)) (by exact h0) ?_
  refine lv_null hx hb dX1_stopWaiting_8 ?_
  refine x_rstN F hI 0 (show (n) < 100 by omega) rfl dX1_stopWaiting_9 (fun H locs hI => ?_)
  refine lv_aload_n hx hb dX1_stopWaiting_10 rfl (lv_at hl 0 rfl) ?_
  refine x_get F hI 2 (by decide) rfl flX1_25 dX1_stopWaiting_11 ?_
  refine lv_iconst (v := nI 1) hx hb dX1_stopWaiting_14 (by decide) ?_
  refine lv_dup2_11 hx hb dX1_stopWaiting_15 rfl rfl ?_
  refine x_ald F hI 2 (show 1 < 13 by omega) rfl dX1_stopWaiting_16 ?_
  refine lv_iconst (v := nI 1) hx hb dX1_stopWaiting_17 (by decide) ?_
  refine lv_isub hx hb dX1_stopWaiting_18 ?_
  refine x_ast F hI 2 (show 1 < 13 by omega) rfl dX1_stopWaiting_19 (fun H locs hI => ?_)
  exact kret_v F hI dX1_stopWaiting_20 (⟨rfl, rfl⟩)
theorem xc_counted (st : XS) (i : Nat) (r : Int32) (hi : i < 13) : kM l yX1_counted cX1_counted 3 (some .int) 0 0 0 0 D (xty K) (xw g K) [.ref (g 0), .int (nI i), .int r] st (fun v u => v = some (.int r) ∧ u = xinc st 2 i) := by
  refine kM_intro (by decide) (Nat.le_of_ble_eq_true rfl) ?_
  intro p e s m below meth c A ls F hA hI hl
  obtain ⟨hx, hb, hr, hml, hown, hts, hlk, hK, hnm⟩ := id F
  have hl : lv_has ls 3 [(0, .ref (g 0)), (1, .int (nI i)), (2, .int r)] := hl
  refine lv_aload_n hx hb dX1_counted_0 rfl (lv_at hl 0 rfl) ?_
  refine x_get F hI 2 (by decide) rfl flX1_25 dX1_counted_1 ?_
  refine lv_iload_n hx hb dX1_counted_4 rfl (lv_at hl 1 rfl) ?_
  refine lv_dup2_11 hx hb dX1_counted_5 rfl rfl ?_
  refine x_ald F hI 2 (show i < 13 by omega) rfl dX1_counted_6 ?_
  refine lv_iconst (v := nI 1) hx hb dX1_counted_7 (by decide) ?_
  refine lv_iadd hx hb dX1_counted_8 ?_
  refine x_ast F hI 2 (show i < 13 by omega) rfl dX1_counted_9 (fun H locs hI => ?_)
  refine lv_iload_n hx hb dX1_counted_10 rfl (lv_at hl 2 rfl) ?_
  exact kret_i F hI dX1_counted_11 (⟨rfl, rfl⟩)
theorem xc_stepOf (st : XS) (z : Nat) (hz : z < 8192) : kM l yX1_stepOf cX1_stepOf 2 (some .int) 0 0 0 0 D (xty K) (xw g K) [.int (nI z)] st (fun v u => v = some (.int (nI (stp z))) ∧ u = st) := by
  refine kM_intro (by decide) (Nat.le_of_ble_eq_true rfl) ?_
  intro p e s m below meth c A ls F hA hI hl
  obtain ⟨hx, hb, hr, hml, hown, hts, hlk, hK, hnm⟩ := id F
  have hl : lv_has ls 2 [(0, .int (nI z))] := hl
  refine lv_iconst (v := nI 0) hx hb dX1_stepOf_0 (by decide) ?_
  refine lv_istore_n (lv' := [(1, .int _), (0, .int _)]) hx hb dX1_stepOf_1 rfl hl (by decide) rfl (fun ls hl => ?_)
  refine wloop (σ := Nat × Nat) (fun x => x.1) (fun x H locs ls => x.2 + x.1 = 13 ∧ stpL z x.1 x.2 = stp z ∧ kI D (xw g K) A s.heap st H locs ∧ lv_has ls 2 [(1, .int (nI x.2)), (0, .int (nI z))]) ?_ (13, 0) _ _ _ ⟨rfl, rfl, hI, lv_sub hl [0, 1] rfl⟩
  rintro ⟨f, j⟩ H locs ls ⟨hk, he, hI, hl⟩ ih
  dsimp only at hk he hI hl ih
  have h2j : 2 ^ j ≤ 8192 := Nat.pow_le_pow_right (n := 2) (by decide) (show j ≤ 13 by omega)
  refine lv_iload_n hx hb dX1_stepOf_2 rfl (lv_at hl 0 rfl) ?_
  refine lv_bipush (v := nI 13) hx hb dX1_stepOf_3 (by decide) ?_
  refine lv_icmp_ge (tgt := 21) hx hb dX1_stepOf_5 (by decide) (fun c5 => ?_) (fun c5 => ?_)
  ·
    rw [nI_leI (by omega) (by omega)] at c5
    obtain rfl : f = 0 := by omega
    have hj : j = stp z := he
    refine lv_iload_n hx hb dX1_stepOf_21 rfl (lv_at hl 0 rfl) ?_
    exact kret_i F hI dX1_stepOf_22 (⟨by rw [hj], rfl⟩)
  ·
    rw [nI_leI (by omega) (by omega)] at c5
    obtain ⟨f, rfl⟩ : ∃ f', f = f' + 1 := ⟨f - 1, by omega⟩
    refine lv_iload_n hx hb dX1_stepOf_8 rfl (lv_at hl 1 rfl) ?_
    refine lv_iconst (v := nI 1) hx hb dX1_stepOf_9 (by decide) ?_
    refine lv_iload_n hx hb dX1_stepOf_10 rfl (lv_at hl 0 rfl) ?_
    refine lv_ishl hx hb dX1_stepOf_11 ?_
    refine ktop (y := nI (2 ^ j)) (by exact sh1 j (by omega)) ?_
    refine lv_icmp_lt (tgt := 21) hx hb dX1_stepOf_12 (by decide) (fun c12 => ?_) (fun c12 => ?_)
    ·
      rw [nI_ltI (by omega) (by omega)] at c12
      have hj : j = stp z := by rw [← he]; simp [stpL, c12]
      refine lv_iload_n hx hb dX1_stepOf_21 rfl (lv_at hl 0 rfl) ?_
      exact kret_i F hI dX1_stepOf_22 (⟨by rw [hj], rfl⟩)
    ·
      rw [nI_ltI (by omega) (by omega)] at c12
      refine lv_iinc (v := nI (j + 1)) (lv' := [(1, .int _), (0, .int _)]) hx hb dX1_stepOf_15 hl (k := 0) rfl (kinc _ 1) (by decide) rfl (fun ls hl => ?_)
      refine lv_goto (tgt := 2) hx hb dX1_stepOf_18 (by decide) ?_
      exact ih (f, j + 1) _ _ _ (by show f < f + 1; omega) ⟨by show j + 1 + f = _; omega, by rw [← he]; simp [stpL, c12], hI, lv_sub hl [0, 1] rfl⟩
end XC1
