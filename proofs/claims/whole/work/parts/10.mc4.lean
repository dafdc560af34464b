theorem upd_s {f : Nat → Int32} {k : Nat} {x : Int32} : upd f k x k = x := pk_us
theorem mset_s {st : MS} {k i : Nat} {v : Int32} : (mset st k i v).1 k i = v := by simp [mset, va_up, upd]
theorem mset_k {st : MS} {k j i : Nat} {v : Int32} (h : j ≠ k) : (mset st k i v).1 j = st.1 j := by simp [mset, va_up, h]
theorem mset_a {st : MS} {k i : Nat} {v : Int32} : (mset st k i v).1 k = upd (st.1 k) i v := by simp [mset, va_up]
def m_tkK (st : MS) (k : Nat) : MS := if ¬ st.1 2 k = -9 ∧ ¬ st.2.1 - st.1 7 k < st.1 1 4 then m_dec st k true else st
def m_tkN : Nat → Nat → MS → MS
  | 0, _, st => st
  | f + 1, k, st => m_tkN f (k + 1) (m_tkK st k)
def m_tk1 (st : MS) : MS := m_tkN 100 0 (mnow st (st.2.1 + nI 1))
def m_tkL : Nat → MS → MS
  | 0, st => st
  | f + 1, st => m_tkL f (m_tk1 st)
/-- what a decision needs of the state -/
def mokT (st : MS) : Prop := (∀ n, n < 100 → ¬ st.1 2 n = -9 → ∃ sh z, sh < 5 ∧ z < 8192 ∧ st.1 4 n = nI sh ∧ st.1 5 n = nI z) ∧ st.2.2.2 ≤ 20
theorem m_keep_k (u : MS) (n sh : Nat) (tn : Bool) (w : Int32) {k : Nat} (h1 : k ≠ 10) (h2 : k ≠ 11) : (m_keep u n sh tn w).1 k = u.1 k := by
  unfold m_keep
  split
  · rfl
  · split
    · exact mset_k h2
    · unfold m_row m_rowK madd mcp mnw mkm
      simp only [mset_k h1, mset_k h2]
theorem m_keep_km (u : MS) (n sh : Nat) (tn : Bool) (w : Int32) (h : u.2.2.2 ≤ 20) : (m_keep u n sh tn w).2.2.2 ≤ 20 := by
  unfold m_keep
  split
  · exact h
  · split
    · exact h
    · show u.2.2.2 + 1 ≤ 20
      omega
theorem m_keep_now (u : MS) (n sh : Nat) (tn : Bool) (w : Int32) : (m_keep u n sh tn w).2.1 = u.2.1 := by
  unfold m_keep
  split
  · rfl
  · split <;> rfl
theorem m_decA_k (u : MS) (n sh z : Nat) (tn : Bool) {k : Nat} (h1 : k ≠ 11) (h2 : k ≠ 12) (h3 : k ≠ 13) (h4 : k ≠ 2) (h5 : k ≠ 8) (h6 : k ≠ 9) : (m_decA u n sh z tn).1 k = u.1 k := by
  unfold m_decA mnw mcp madd m_inc
  simp only [mset_k h1, mset_k h2, mset_k h3, mset_k h4, mset_k h5, mset_k h6]
theorem m_decA_2 (u : MS) (n sh z : Nat) (tn : Bool) : (m_decA u n sh z tn).1 2 = upd (u.1 2) n (-9) := by
  unfold m_decA mnw mcp
  rw [mset_k (by decide), mset_k (by decide), mset_a]
  unfold madd m_inc
  rw [mset_k (by decide), mset_k (by decide), mset_k (by decide), mset_k (by decide)]
theorem m_dec_k (st : MS) (n : Nat) (tn : Bool) {k : Nat} (h : k = 1 ∨ k = 0 ∨ k = 3 ∨ k = 4 ∨ k = 5 ∨ k = 6 ∨ k = 7) : (m_dec st n tn).1 k = st.1 k := by
  unfold m_dec m_decS
  rw [m_keep_k _ _ _ _ _ (by omega) (by omega), m_decA_k _ _ _ _ _ (by omega) (by omega) (by omega) (by omega) (by omega) (by omega), (m_only_weight st _ _ tn).1 k (by omega)]
theorem m_dec_2 (st : MS) (n : Nat) (tn : Bool) : (m_dec st n tn).1 2 = upd (st.1 2) n (-9) := by
  unfold m_dec m_decS
  rw [m_keep_k _ _ _ _ _ (by omega) (by omega), m_decA_2, (m_only_weight st _ _ tn).1 2 (by omega)]
theorem m_dec_km (st : MS) (n : Nat) (tn : Bool) (h : st.2.2.2 ≤ 20) : (m_dec st n tn).2.2.2 ≤ 20 := by
  unfold m_dec m_decS
  refine m_keep_km _ _ _ _ _ ?_
  show (m_weight st _ _ tn).2.2.2.2 ≤ 20
  rw [(m_only_weight st _ _ tn).2.2]
  exact h
theorem m_dec_now (st : MS) (n : Nat) (tn : Bool) : (m_dec st n tn).2.1 = st.2.1 := by
  unfold m_dec m_decS
  rw [m_keep_now]
  exact (m_only_weight st _ _ tn).2.1
theorem mokT_dec {st : MS} (n : Nat) (tn : Bool) (h : mokT st) : mokT (m_dec st n tn) := by
  refine ⟨fun k hk h2 => ?_, m_dec_km st n tn h.2⟩
  rw [m_dec_2] at h2
  rw [m_dec_k st n tn (k := 4) (by omega), m_dec_k st n tn (k := 5) (by omega)]
  by_cases e : k = n
  · subst e
    exact absurd pk_us h2
  · rw [pk_un e] at h2
    exact h.1 k hk h2
theorem mokT_now {st : MS} (v : Int32) (h : mokT st) : mokT (mnow st v) := h
theorem mokT_tkN : ∀ (f k : Nat) (st : MS), mokT st → mokT (m_tkN f k st) := by
  intro f
  induction f with
  | zero => intro k st h; exact h
  | succ f ih =>
    intro k st h
    refine ih (k + 1) _ ?_
    unfold m_tkK
    split
    · exact mokT_dec k true h
    · exact h
section MC4
variable (l : Launch) {D : va_G} {g : Nat → Nat} {K : Nat → ClassId}
theorem mc_joins (st : MS) (n pq : Nat) (il : Bool) (z sh zl : Nat) (hn : n < 100) (hp : pq < 8) (hz : z ≤ 1000) (hs : sh < 5) (h4 : st.1 4 n = nI sh) (h5 : st.1 5 n = nI zl) (hzl : ¬ (st.1 3 n >>> (nI pq &&& 31)) &&& nI 1 = nI 1 → zl + z < 8192) (hkm : st.2.2.2 ≤ 20) : kM l yX2_joins cX2_joins 5 (some .int) 2 50 0 0 D (mty K) (mw g K) [.ref (g 0), .int (nI n), .int (nI pq), .int (bI il), .int (nI z)] st (fun v u => v = some (.int (nI (m_joins st n pq il z).1)) ∧ u = (m_joins st n pq il z).2) := by
  refine kM_intro (by decide) (Nat.le_of_ble_eq_true rfl) ?_
  intro p e s m below meth c A ls F hA hI hl
  obtain ⟨hx, hb, hr, hml, hown, hts, hlk, hK, hnm⟩ := id F
  have hl : lv_has ls 5 [(0, .ref (g 0)), (1, .int (nI n)), (2, .int (nI pq)), (3, .int (bI il)), (4, .int (nI z))] := hl
  have h101 : ∀ (u : MS) (H : Heap) (locs : List Loc) (ls : Array Slot), kI D (mw g K) A s.heap u H locs → u = m_jn st n pq il z → ¬ (st.1 3 n >>> (nI pq &&& 31)) &&& nI 1 = nI 1 → ¬ m_odd st n pq il → lv_has ls 5 [(0, .ref (g 0)), (1, .int (nI n)), (2, .int (nI pq)), (3, .int (bI il)), (4, .int (nI z))] → W p l e { frames := 2, cells := 0, slots := 0, locals := 50 } s m #[.ref (g 0), .int (nI n), .int (nI pq), .int (bI il), .int (nI z)] below meth c H locs 0 0 (MQ below (kQ D (mty K) (mw g K) (fun v u => v = some (.int (nI (m_joins st n pq il z).1)) ∧ u = (m_joins st n pq il z).2) A) #[.ref (g 0), .int (nI n), .int (nI pq), .int (bI il), .int (nI z)] s 0 0 A) (F0 m 101 ls []) := by
    intro u H locs ls hI hu ht ho hl
    have hu4 : u.1 4 n = nI sh := by rw [hu, m_jn, mlast, mset_k (by decide), madd, mset_k (by decide), mor, mset_k (by decide)]; exact h4
    have hu5 : u.1 5 n = nI (zl + z) := by rw [hu, m_jn, mlast, mset_k (by decide), madd, mset_s, mor, mset_k (by decide), h5, nI_add]
    have huk : u.2.2.2 ≤ 20 := by rw [hu]; exact hkm
    refine lv_aload_n hx hb dX2_joins_101 rfl (lv_at hl 0 rfl) ?_
    refine m_get F hI 9 (by decide) rfl flX2_29 dX2_joins_102 ?_
    refine lv_iload_n hx hb dX2_joins_105 rfl (lv_at hl 1 rfl) ?_
    refine m_ald F hI  6 (show n < 100 by omega) rfl dX2_joins_106 ?_
    refine lv_bipush (v := -9) hx hb dX2_joins_107 (by decide) ?_
    refine lv_icmp_eq (tgt := 141) hx hb dX2_joins_109 (by decide) (fun c109 => ?_) (fun c109 => ?_)
    ·
      refine lv_iconst (v := nI 1) hx hb dX2_joins_141 (by decide) ?_
      exact kret_i F hI dX2_joins_142 (⟨by simp [m_joins, ht, m_odF ho, ← hu, c109], by simp [m_joins, ht, m_odF ho, ← hu, c109]⟩)
    ·
      refine lv_aload_n hx hb dX2_joins_112 rfl (lv_at hl 0 rfl) ?_
      refine m_get F hI 6 (by decide) rfl flX2_20 dX2_joins_113 ?_
      refine lv_iload_n hx hb dX2_joins_116 rfl (lv_at hl 1 rfl) ?_
      refine m_ald F hI  3 (show n < 100 by omega) rfl dX2_joins_117 ?_
      refine lv_iconst (v := nI 1) hx hb dX2_joins_118 (by decide) ?_
      refine lv_aload_n hx hb dX2_joins_119 rfl (lv_at hl 0 rfl) ?_
      refine m_get F hI 9 (by decide) rfl flX2_29 dX2_joins_120 ?_
      refine lv_iload_n hx hb dX2_joins_123 rfl (lv_at hl 1 rfl) ?_
      refine m_ald F hI  6 (show n < 100 by omega) rfl dX2_joins_124 ?_
      refine lv_iconst (v := nI 1) hx hb dX2_joins_125 (by decide) ?_
      refine lv_iadd hx hb dX2_joins_126 ?_
      refine lv_ishl hx hb dX2_joins_127 ?_
      refine lv_iconst (v := nI 1) hx hb dX2_joins_128 (by decide) ?_
      refine lv_isub hx hb dX2_joins_129 ?_
      refine lv_icmp_ne (tgt := 141) hx hb dX2_joins_130 (by decide) (fun c130 => ?_) (fun c130 => ?_)
      ·
        refine lv_iconst (v := nI 1) hx hb dX2_joins_141 (by decide) ?_
        exact kret_i F hI dX2_joins_142 (⟨by simp [m_joins, ht, m_odF ho, ← hu, c109, c130], by simp [m_joins, ht, m_odF ho, ← hu, c109, c130]⟩)
      ·
        refine lv_aload_n hx hb dX2_joins_133 rfl (lv_at hl 0 rfl) ?_
        refine lv_iload_n hx hb dX2_joins_134 rfl (lv_at hl 1 rfl) ?_
        refine lv_iconst (v := nI 0) hx hb dX2_joins_135 (by decide) ?_
        refine kcallV (rest := []) F hA hI (mc_decides l u n sh (zl + z) false hn hs (hzl ht) hu4 hu5 huk) kgX2_85 (m_rec F hI) hl.1 rfl rfl (Nat.le_of_ble_eq_true rfl) dX2_joins_136 ⟨Nat.le_of_ble_eq_true rfl, Nat.le_of_ble_eq_true rfl⟩ ⟨Nat.le_of_ble_eq_true rfl, Nat.le_of_ble_eq_true rfl⟩ (fun vq uq H locs hp hI => ?_)
        obtain ⟨rfl, hu⟩ := hp
        rw [hu] at hI
        clear hu
        refine kstk (b := []) rfl ?_
        refine lv_iconst (v := nI 2) hx hb dX2_joins_139 (by decide) ?_
        exact kret_i F hI dX2_joins_140 (⟨by simp [m_joins, ht, m_odF ho, ← hu, c109, c130], by simp [m_joins, ht, m_odF ho, ← hu, c109, c130]⟩)
  have h58 : ∀ (H : Heap) (locs : List Loc) (ls : Array Slot), kI D (mw g K) A s.heap st H locs → ¬ (st.1 3 n >>> (nI pq &&& 31)) &&& nI 1 = nI 1 → ¬ m_odd st n pq il → lv_has ls 5 [(0, .ref (g 0)), (1, .int (nI n)), (2, .int (nI pq)), (3, .int (bI il)), (4, .int (nI z))] → W p l e { frames := 2, cells := 0, slots := 0, locals := 50 } s m #[.ref (g 0), .int (nI n), .int (nI pq), .int (bI il), .int (nI z)] below meth c H locs 0 0 (MQ below (kQ D (mty K) (mw g K) (fun v u => v = some (.int (nI (m_joins st n pq il z).1)) ∧ u = (m_joins st n pq il z).2) A) #[.ref (g 0), .int (nI n), .int (nI pq), .int (bI il), .int (nI z)] s 0 0 A) (F0 m 58 ls []) := by
    intro H locs ls hI ht ho hl
    refine lv_aload_n hx hb dX2_joins_58 rfl (lv_at hl 0 rfl) ?_
    refine m_get F hI 6 (by decide) rfl flX2_20 dX2_joins_59 ?_
    refine lv_iload_n hx hb dX2_joins_62 rfl (lv_at hl 1 rfl) ?_
    refine lv_dup2_11 hx hb dX2_joins_63 rfl rfl ?_
    refine m_ald F hI  3 (show n < 100 by omega) rfl dX2_joins_64 ?_
    refine lv_iconst (v := nI 1) hx hb dX2_joins_65 (by decide) ?_
    refine lv_iload_n hx hb dX2_joins_66 rfl (lv_at hl 2 rfl) ?_
    refine lv_ishl hx hb dX2_joins_67 ?_
    refine lv_ior hx hb dX2_joins_68 ?_
    refine m_ast F hI 3 (show n < 100 by omega) rfl dX2_joins_69 (fun H locs hI => ?_)
    have hI : kI D _ A s.heap (mor st 3 n (nI 1 <<< (nI pq &&& 31))) H locs := hI
    generalize hS69 : mor st 3 n (nI 1 <<< (nI pq &&& 31)) = S69 at hI
    refine lv_aload_n hx hb dX2_joins_70 rfl (lv_at hl 0 rfl) ?_
    refine m_get F hI 8 (by decide) rfl flX2_26 dX2_joins_71 ?_
    refine lv_iload_n hx hb dX2_joins_74 rfl (lv_at hl 1 rfl) ?_
    refine lv_dup2_11 hx hb dX2_joins_75 rfl rfl ?_
    refine m_ald F hI  5 (show n < 100 by omega) rfl dX2_joins_76 ?_
    refine lv_iload hx hb dX2_joins_77 (lv_at hl 4 rfl) ?_
    refine lv_iadd hx hb dX2_joins_79 ?_
    refine m_ast F hI 5 (show n < 100 by omega) rfl dX2_joins_80 (fun H locs hI => ?_)
    have hI : kI D _ A s.heap (madd S69 5 n (nI z)) H locs := hI
    generalize hS80 : madd S69 5 n (nI z) = S80 at hI
    refine lv_aload_n hx hb dX2_joins_81 rfl (lv_at hl 0 rfl) ?_
    refine m_get F hI 9 (by decide) rfl flX2_29 dX2_joins_82 ?_
    refine lv_iload_n hx hb dX2_joins_85 rfl (lv_at hl 1 rfl) ?_
    refine lv_iload_n hx hb dX2_joins_86 rfl (lv_at hl 3 rfl) ?_
    refine lv_if_eq (tgt := 94) hx hb dX2_joins_87 (by decide) (fun c87 => ?_) (fun c87 => ?_)
    ·
      refine lv_aload_n hx hb dX2_joins_94 rfl (lv_at hl 0 rfl) ?_
      refine m_get F hI 9 (by decide) rfl flX2_29 dX2_joins_95 ?_
      refine lv_iload_n hx hb dX2_joins_98 rfl (lv_at hl 1 rfl) ?_
      refine m_ald F hI  6 (show n < 100 by omega) rfl dX2_joins_99 ?_
      refine m_ast F hI 6 (show n < 100 by omega) rfl dX2_joins_100 (fun H locs hI => ?_)
      exact h101 _ _ _ _ hI (by rw [bI_z] at c87; rw [m_jn, ← hS80, ← hS69, mlast, c87]; rfl) ht ho (lv_sub hl [0, 1, 2, 3, 4] rfl)
    ·
      refine lv_iload_n hx hb dX2_joins_90 rfl (lv_at hl 2 rfl) ?_
      refine lv_goto (tgt := 100) hx hb dX2_joins_91 (by decide) ?_
      refine m_ast F hI 6 (show n < 100 by omega) rfl dX2_joins_100 (fun H locs hI => ?_)
      exact h101 _ _ _ _ hI (by rw [bI_z] at c87; rw [m_jn, ← hS80, ← hS69, mlast, if_pos (by simpa using c87)]) ht ho (lv_sub hl [0, 1, 2, 3, 4] rfl)
  cases il
  · have hl := hl
    refine lv_aload_n hx hb dX2_joins_0 rfl (lv_at hl 0 rfl) ?_
    refine m_get F hI 6 (by decide) rfl flX2_20 dX2_joins_1 ?_
    refine lv_iload_n hx hb dX2_joins_4 rfl (lv_at hl 1 rfl) ?_
    refine m_ald F hI  3 (show n < 100 by omega) rfl dX2_joins_5 ?_
    refine lv_iload_n hx hb dX2_joins_6 rfl (lv_at hl 2 rfl) ?_
    refine lv_ishr hx hb dX2_joins_7 ?_
    refine lv_iconst (v := nI 1) hx hb dX2_joins_8 (by decide) ?_
    refine lv_iand hx hb dX2_joins_9 ?_
    refine lv_iconst (v := nI 1) hx hb dX2_joins_10 (by decide) ?_
    refine lv_icmp_ne (tgt := 16) hx hb dX2_joins_11 (by decide) (fun c11 => ?_) (fun c11 => ?_)
    ·
      refine lv_aload_n hx hb dX2_joins_16 rfl (lv_at hl 0 rfl) ?_
      refine m_get F hI 9 (by decide) rfl flX2_29 dX2_joins_17 ?_
      refine lv_iload_n hx hb dX2_joins_20 rfl (lv_at hl 1 rfl) ?_
      refine m_ald F hI  6 (show n < 100 by omega) rfl dX2_joins_21 ?_
      refine lv_bipush (v := -9) hx hb dX2_joins_22 (by decide) ?_
      refine lv_icmp_eq (tgt := 41) hx hb dX2_joins_24 (by decide) (fun c24 => ?_) (fun c24 => ?_)
      ·
        refine lv_iload_n hx hb dX2_joins_41 rfl (lv_at hl 3 rfl) ?_
        refine lv_if_eq (tgt := 58) hx hb dX2_joins_42 (by decide) (fun c42 => ?_) (fun c42 => absurd c42 ((fun q => q rfl)))
        exact h58 _ _ _ hI c11 (fun q => q.elim (fun q => q.1 c24) (fun q => by cases q.1)) hl
      ·
        refine lv_iload_n hx hb dX2_joins_27 rfl (lv_at hl 2 rfl) ?_
        refine lv_aload_n hx hb dX2_joins_28 rfl (lv_at hl 0 rfl) ?_
        refine m_get F hI 9 (by decide) rfl flX2_29 dX2_joins_29 ?_
        refine lv_iload_n hx hb dX2_joins_32 rfl (lv_at hl 1 rfl) ?_
        refine m_ald F hI  6 (show n < 100 by omega) rfl dX2_joins_33 ?_
        refine lv_icmp_gt (tgt := 56) hx hb dX2_joins_34 (by decide) (fun c34 => ?_) (fun c34 => ?_)
        ·
          refine lv_iconst (v := nI 4) hx hb dX2_joins_56 (by decide) ?_
          exact kret_i F hI dX2_joins_57 (⟨by simp [m_joins, c11, m_odT (show m_odd st n pq false from Or.inl ⟨c24, Or.inl c34⟩)], by simp [m_joins, c11, m_odT (show m_odd st n pq false from Or.inl ⟨c24, Or.inl c34⟩)]⟩)
        ·
          refine lv_iload_n hx hb dX2_joins_37 rfl (lv_at hl 3 rfl) ?_
          refine lv_if_ne (tgt := 56) hx hb dX2_joins_38 (by decide) (fun c38 => absurd c38 ((fun q => q rfl))) (fun c38 => ?_)
          refine lv_iload_n hx hb dX2_joins_41 rfl (lv_at hl 3 rfl) ?_
          refine lv_if_eq (tgt := 58) hx hb dX2_joins_42 (by decide) (fun c42 => ?_) (fun c42 => absurd c42 ((fun q => q rfl)))
          exact h58 _ _ _ hI c11 (fun q => q.elim (fun q => q.2.elim c34 (fun q => by cases q)) (fun q => by cases q.1)) hl
    ·
      refine lv_iconst (v := nI 3) hx hb dX2_joins_14 (by decide) ?_
      exact kret_i F hI dX2_joins_15 (⟨by simp [m_joins, c11], by simp [m_joins, c11]⟩)
  · have hl := hl
    refine lv_aload_n hx hb dX2_joins_0 rfl (lv_at hl 0 rfl) ?_
    refine m_get F hI 6 (by decide) rfl flX2_20 dX2_joins_1 ?_
    refine lv_iload_n hx hb dX2_joins_4 rfl (lv_at hl 1 rfl) ?_
    refine m_ald F hI  3 (show n < 100 by omega) rfl dX2_joins_5 ?_
    refine lv_iload_n hx hb dX2_joins_6 rfl (lv_at hl 2 rfl) ?_
    refine lv_ishr hx hb dX2_joins_7 ?_
    refine lv_iconst (v := nI 1) hx hb dX2_joins_8 (by decide) ?_
    refine lv_iand hx hb dX2_joins_9 ?_
    refine lv_iconst (v := nI 1) hx hb dX2_joins_10 (by decide) ?_
    refine lv_icmp_ne (tgt := 16) hx hb dX2_joins_11 (by decide) (fun c11 => ?_) (fun c11 => ?_)
    ·
      refine lv_aload_n hx hb dX2_joins_16 rfl (lv_at hl 0 rfl) ?_
      refine m_get F hI 9 (by decide) rfl flX2_29 dX2_joins_17 ?_
      refine lv_iload_n hx hb dX2_joins_20 rfl (lv_at hl 1 rfl) ?_
      refine m_ald F hI  6 (show n < 100 by omega) rfl dX2_joins_21 ?_
      refine lv_bipush (v := -9) hx hb dX2_joins_22 (by decide) ?_
      refine lv_icmp_eq (tgt := 41) hx hb dX2_joins_24 (by decide) (fun c24 => ?_) (fun c24 => ?_)
      ·
        refine lv_iload_n hx hb dX2_joins_41 rfl (lv_at hl 3 rfl) ?_
        refine lv_if_eq (tgt := 58) hx hb dX2_joins_42 (by decide) (fun c42 => absurd c42 (by decide)) (fun c42 => ?_)
        refine lv_aload_n hx hb dX2_joins_45 rfl (lv_at hl 0 rfl) ?_
        refine m_get F hI 6 (by decide) rfl flX2_20 dX2_joins_46 ?_
        refine lv_iload_n hx hb dX2_joins_49 rfl (lv_at hl 1 rfl) ?_
        refine m_ald F hI  3 (show n < 100 by omega) rfl dX2_joins_50 ?_
        refine lv_iload_n hx hb dX2_joins_51 rfl (lv_at hl 2 rfl) ?_
        refine lv_ishr hx hb dX2_joins_52 ?_
        refine lv_if_eq (tgt := 58) hx hb dX2_joins_53 (by decide) (fun c53 => ?_) (fun c53 => ?_)
        ·
          exact h58 _ _ _ hI c11 (fun q => q.elim (fun q => q.1 c24) (fun q => q.2 c53)) hl
        ·
          refine lv_iconst (v := nI 4) hx hb dX2_joins_56 (by decide) ?_
          exact kret_i F hI dX2_joins_57 (⟨by simp [m_joins, c11, m_odT (show m_odd st n pq true from Or.inr ⟨rfl, c53⟩)], by simp [m_joins, c11, m_odT (show m_odd st n pq true from Or.inr ⟨rfl, c53⟩)]⟩)
      ·
        refine lv_iload_n hx hb dX2_joins_27 rfl (lv_at hl 2 rfl) ?_
        refine lv_aload_n hx hb dX2_joins_28 rfl (lv_at hl 0 rfl) ?_
        refine m_get F hI 9 (by decide) rfl flX2_29 dX2_joins_29 ?_
        refine lv_iload_n hx hb dX2_joins_32 rfl (lv_at hl 1 rfl) ?_
        refine m_ald F hI  6 (show n < 100 by omega) rfl dX2_joins_33 ?_
        refine lv_icmp_gt (tgt := 56) hx hb dX2_joins_34 (by decide) (fun c34 => ?_) (fun c34 => ?_)
        ·
          refine lv_iconst (v := nI 4) hx hb dX2_joins_56 (by decide) ?_
          exact kret_i F hI dX2_joins_57 (⟨by simp [m_joins, c11, m_odT (show m_odd st n pq true from Or.inl ⟨c24, Or.inr rfl⟩)], by simp [m_joins, c11, m_odT (show m_odd st n pq true from Or.inl ⟨c24, Or.inr rfl⟩)]⟩)
        ·
          refine lv_iload_n hx hb dX2_joins_37 rfl (lv_at hl 3 rfl) ?_
          refine lv_if_ne (tgt := 56) hx hb dX2_joins_38 (by decide) (fun c38 => ?_) (fun c38 => absurd c38 (by decide))
          refine lv_iconst (v := nI 4) hx hb dX2_joins_56 (by decide) ?_
          exact kret_i F hI dX2_joins_57 (⟨by simp [m_joins, c11, m_odT (show m_odd st n pq true from Or.inl ⟨c24, Or.inr rfl⟩)], by simp [m_joins, c11, m_odT (show m_odd st n pq true from Or.inl ⟨c24, Or.inr rfl⟩)]⟩)
    ·
      refine lv_iconst (v := nI 3) hx hb dX2_joins_14 (by decide) ?_
      exact kret_i F hI dX2_joins_15 (⟨by simp [m_joins, c11], by simp [m_joins, c11]⟩)
theorem mc_comes (st : MS) (n pq : Nat) (il : Bool) (sh z : Nat) (hn : n < 100) (hp : pq < 8) (hs : sh < 5) (hz : z ≤ 1000) (hj : ¬ st.1 2 n = -9 → ∃ sh' zl, sh' < 5 ∧ st.1 4 n = nI sh' ∧ st.1 5 n = nI zl ∧ (¬ (st.1 3 n >>> (nI pq &&& 31)) &&& nI 1 = nI 1 → zl + z < 8192)) (hkm : st.2.2.2 ≤ 20) : kM l yX2_comes cX2_comes 7 (some .int) 3 74 0 0 D (mty K) (mw g K) [.ref (g 0), .int (nI n), .int (nI pq), .int (bI il), .int (nI sh), .int (nI z)] st (fun v u => v = some (.int (nI (m_comes st n pq il sh z).1)) ∧ u = (m_comes st n pq il sh z).2) := by
  refine kM_intro (by decide) (Nat.le_of_ble_eq_true rfl) ?_
  intro p e s m below meth c A ls F hA hI hl
  obtain ⟨hx, hb, hr, hml, hown, hts, hlk, hK, hnm⟩ := id F
  have hl : lv_has ls 7 [(0, .ref (g 0)), (1, .int (nI n)), (2, .int (nI pq)), (3, .int (bI il)), (4, .int (nI sh)), (5, .int (nI z))] := hl
  by_cases hh : hm (m_up st) n = -9
  · have hl := hl
    refine lv_aload_n hx hb dX2_comes_0 rfl (lv_at hl 0 rfl) ?_
    refine lv_iload_n hx hb dX2_comes_1 rfl (lv_at hl 1 rfl) ?_
    refine kcallV (rest := []) F hA hI (mc_homeOf l _ n hn) kgX2_61 (m_rec F hI) hl.1 rfl rfl (Nat.le_of_ble_eq_true rfl) dX2_comes_2 ⟨Nat.le_of_ble_eq_true rfl, Nat.le_of_ble_eq_true rfl⟩ ⟨Nat.le_of_ble_eq_true rfl, Nat.le_of_ble_eq_true rfl⟩ (fun vq uq H locs hp hI => ?_)
    obtain ⟨rfl, hu⟩ := hp
    rw [hu] at hI
    clear hu
    refine kstk (b := .int _ :: []) rfl ?_
    refine lv_bipush (v := -9) hx hb dX2_comes_5 (by decide) ?_
    refine lv_icmp_ne (tgt := 13) hx hb dX2_comes_7 (by decide) (fun c7 => absurd c7 ((fun q => q hh))) (fun c7 => ?_)
    refine lv_bipush (v := nI 7) hx hb dX2_comes_10 (by decide) ?_
    exact kret_i F hI dX2_comes_12 (⟨by simp [m_comes, hh], by simp [m_comes, hh]⟩)
  by_cases hk : st.1 2 n = -9
  · by_cases hw : m_known st n = true
    · rcases m_keptAt_cases st n with h0 | ⟨i, hi, h1⟩
      · have hl := hl
        refine lv_aload_n hx hb dX2_comes_0 rfl (lv_at hl 0 rfl) ?_
        refine lv_iload_n hx hb dX2_comes_1 rfl (lv_at hl 1 rfl) ?_
        refine kcallV (rest := []) F hA hI (mc_homeOf l _ n hn) kgX2_61 (m_rec F hI) hl.1 rfl rfl (Nat.le_of_ble_eq_true rfl) dX2_comes_2 ⟨Nat.le_of_ble_eq_true rfl, Nat.le_of_ble_eq_true rfl⟩ ⟨Nat.le_of_ble_eq_true rfl, Nat.le_of_ble_eq_true rfl⟩ (fun vq uq H locs hp hI => ?_)
        obtain ⟨rfl, hu⟩ := hp
        rw [hu] at hI
        clear hu
        refine kstk (b := .int _ :: []) rfl ?_
        refine lv_bipush (v := -9) hx hb dX2_comes_5 (by decide) ?_
        refine lv_icmp_ne (tgt := 13) hx hb dX2_comes_7 (by decide) (fun c7 => ?_) (fun c7 => absurd c7 (hh))
        refine lv_aload_n hx hb dX2_comes_13 rfl (lv_at hl 0 rfl) ?_
        refine m_get F hI 5 (by decide) rfl flX2_17 dX2_comes_14 ?_
        refine lv_iload_n hx hb dX2_comes_17 rfl (lv_at hl 1 rfl) ?_
        refine m_ald F hI  2 (show n < 100 by omega) rfl dX2_comes_18 ?_
        refine lv_bipush (v := -9) hx hb dX2_comes_19 (by decide) ?_
        refine lv_icmp_eq (tgt := 34) hx hb dX2_comes_21 (by decide) (fun c21 => ?_) (fun c21 => absurd c21 ((fun q => q hk)))
        refine lv_aload_n hx hb dX2_comes_34 rfl (lv_at hl 0 rfl) ?_
        refine lv_iload_n hx hb dX2_comes_35 rfl (lv_at hl 1 rfl) ?_
        refine kcallV (rest := []) F hA hI (mc_known l _ n hn) kgX2_93 (m_rec F hI) hl.1 rfl rfl (Nat.le_of_ble_eq_true rfl) dX2_comes_36 ⟨Nat.le_of_ble_eq_true rfl, Nat.le_of_ble_eq_true rfl⟩ ⟨Nat.le_of_ble_eq_true rfl, Nat.le_of_ble_eq_true rfl⟩ (fun vq uq H locs hp hI => ?_)
        obtain ⟨rfl, hu⟩ := hp
        rw [hu] at hI
        clear hu
        refine kstk (b := .int _ :: []) rfl ?_
        refine lv_if_eq (tgt := 136) hx hb dX2_comes_39 (by decide) (fun c39 => absurd c39 ((fun q => by rw [bI_z, hw] at q; cases q))) (fun c39 => ?_)
        refine lv_aload_n hx hb dX2_comes_42 rfl (lv_at hl 0 rfl) ?_
        refine lv_iload_n hx hb dX2_comes_43 rfl (lv_at hl 1 rfl) ?_
        refine kcallV (rest := []) F hA hI (mc_keptAt l _ n hn hkm) kgX2_97 (m_rec F hI) hl.1 rfl rfl (Nat.le_of_ble_eq_true rfl) dX2_comes_44 ⟨Nat.le_of_ble_eq_true rfl, Nat.le_of_ble_eq_true rfl⟩ ⟨Nat.le_of_ble_eq_true rfl, Nat.le_of_ble_eq_true rfl⟩ (fun vq uq H locs hp hI => ?_)
        obtain ⟨rfl, hu⟩ := hp
        rw [hu] at hI
        clear hu
        refine kstk (b := .int _ :: []) rfl ?_
        refine lv_istore (lv' := [(6, .int _), (0, .ref _), (1, .int _), (2, .int _), (3, .int _), (4, .int _), (5, .int _)]) hx hb dX2_comes_47 hl (by decide) rfl (fun ls hl => ?_)
        refine lv_iload hx hb dX2_comes_49 (lv_at hl 0 rfl) ?_
        refine lv_bipush (v := -9) hx hb dX2_comes_51 (by decide) ?_
        refine lv_icmp_eq (tgt := 96) hx hb dX2_comes_53 (by decide) (fun c53 => ?_) (fun c53 => absurd c53 ((fun q => q h0)))
        refine lv_bipush (v := nI 6) hx hb dX2_comes_96 (by decide) ?_
        exact kret_i F hI dX2_comes_98 (⟨by simp [m_comes, hh, hk, hw, h0], by simp [m_comes, hh, hk, hw, h0]⟩)
      · have hcl : (m_keptAt st n).toNatClampNeg = i := by rw [h1]; exact nI_clamp (by omega)
        have h9 : ¬ m_keptAt st n = -9 := by rw [h1]; exact nI_n9 (by omega)
        refine lv_aload_n hx hb dX2_comes_0 rfl (lv_at hl 0 rfl) ?_
        refine lv_iload_n hx hb dX2_comes_1 rfl (lv_at hl 1 rfl) ?_
        refine kcallV (rest := []) F hA hI (mc_homeOf l _ n hn) kgX2_61 (m_rec F hI) hl.1 rfl rfl (Nat.le_of_ble_eq_true rfl) dX2_comes_2 ⟨Nat.le_of_ble_eq_true rfl, Nat.le_of_ble_eq_true rfl⟩ ⟨Nat.le_of_ble_eq_true rfl, Nat.le_of_ble_eq_true rfl⟩ (fun vq uq H locs hp hI => ?_)
        obtain ⟨rfl, hu⟩ := hp
        rw [hu] at hI
        clear hu
        refine kstk (b := .int _ :: []) rfl ?_
        refine lv_bipush (v := -9) hx hb dX2_comes_5 (by decide) ?_
        refine lv_icmp_ne (tgt := 13) hx hb dX2_comes_7 (by decide) (fun c7 => ?_) (fun c7 => absurd c7 (hh))
        refine lv_aload_n hx hb dX2_comes_13 rfl (lv_at hl 0 rfl) ?_
        refine m_get F hI 5 (by decide) rfl flX2_17 dX2_comes_14 ?_
        refine lv_iload_n hx hb dX2_comes_17 rfl (lv_at hl 1 rfl) ?_
        refine m_ald F hI  2 (show n < 100 by omega) rfl dX2_comes_18 ?_
        refine lv_bipush (v := -9) hx hb dX2_comes_19 (by decide) ?_
        refine lv_icmp_eq (tgt := 34) hx hb dX2_comes_21 (by decide) (fun c21 => ?_) (fun c21 => absurd c21 ((fun q => q hk)))
        refine lv_aload_n hx hb dX2_comes_34 rfl (lv_at hl 0 rfl) ?_
        refine lv_iload_n hx hb dX2_comes_35 rfl (lv_at hl 1 rfl) ?_
        refine kcallV (rest := []) F hA hI (mc_known l _ n hn) kgX2_93 (m_rec F hI) hl.1 rfl rfl (Nat.le_of_ble_eq_true rfl) dX2_comes_36 ⟨Nat.le_of_ble_eq_true rfl, Nat.le_of_ble_eq_true rfl⟩ ⟨Nat.le_of_ble_eq_true rfl, Nat.le_of_ble_eq_true rfl⟩ (fun vq uq H locs hp hI => ?_)
        obtain ⟨rfl, hu⟩ := hp
        rw [hu] at hI
        clear hu
        refine kstk (b := .int _ :: []) rfl ?_
        refine lv_if_eq (tgt := 136) hx hb dX2_comes_39 (by decide) (fun c39 => absurd c39 ((fun q => by rw [bI_z, hw] at q; cases q))) (fun c39 => ?_)
        refine lv_aload_n hx hb dX2_comes_42 rfl (lv_at hl 0 rfl) ?_
        refine lv_iload_n hx hb dX2_comes_43 rfl (lv_at hl 1 rfl) ?_
        refine kcallV (rest := []) F hA hI (mc_keptAt l _ n hn hkm) kgX2_97 (m_rec F hI) hl.1 rfl rfl (Nat.le_of_ble_eq_true rfl) dX2_comes_44 ⟨Nat.le_of_ble_eq_true rfl, Nat.le_of_ble_eq_true rfl⟩ ⟨Nat.le_of_ble_eq_true rfl, Nat.le_of_ble_eq_true rfl⟩ (fun vq uq H locs hp hI => ?_)
        obtain ⟨rfl, hu⟩ := hp
        rw [hu] at hI
        clear hu
        refine kstk (b := .int _ :: []) rfl ?_
        refine ktop (y := nI (i)) (by exact h1) ?_
        refine lv_istore (lv' := [(6, .int _), (0, .ref _), (1, .int _), (2, .int _), (3, .int _), (4, .int _), (5, .int _)]) hx hb dX2_comes_47 hl (by decide) rfl (fun ls hl => ?_)
        refine lv_iload hx hb dX2_comes_49 (lv_at hl 0 rfl) ?_
        refine lv_bipush (v := -9) hx hb dX2_comes_51 (by decide) ?_
        refine lv_icmp_eq (tgt := 96) hx hb dX2_comes_53 (by decide) (fun c53 => absurd c53 ((fun q => h9 (h1.trans q)))) (fun c53 => ?_)
        refine lv_aload_n hx hb dX2_comes_56 rfl (lv_at hl 1 rfl) ?_
        refine m_get F hI 1 (by decide) rfl flX2_79 dX2_comes_57 ?_
        refine lv_aload_n hx hb dX2_comes_60 rfl (lv_at hl 1 rfl) ?_
        refine m_get F hI 12 (by decide) rfl flX2_38 dX2_comes_61 ?_
        refine lv_iload_n hx hb dX2_comes_64 rfl (lv_at hl 2 rfl) ?_
        refine m_ald F hI  9 (show n < 100 by omega) rfl dX2_comes_65 ?_
        refine lv_isub hx hb dX2_comes_66 ?_
        refine lv_aload_n hx hb dX2_comes_67 rfl (lv_at hl 1 rfl) ?_
        refine m_get F hI 4 (by decide) rfl flX2_13 dX2_comes_68 ?_
        refine lv_iconst (v := nI 5) hx hb dX2_comes_71 (by decide) ?_
        refine m_ald F hI  1 (show 5 < 6 by omega) rfl dX2_comes_72 ?_
        refine lv_icmp_gt (tgt := 96) hx hb dX2_comes_73 (by decide) (fun c73 => ?_) (fun c73 => ?_)
        ·
          refine lv_bipush (v := nI 6) hx hb dX2_comes_96 (by decide) ?_
          exact kret_i F hI dX2_comes_98 (⟨by simp [m_comes, hh, hk, hw, h9, c73], by simp [m_comes, hh, hk, hw, h9, c73]⟩)
        ·
          refine lv_aload_n hx hb dX2_comes_76 rfl (lv_at hl 1 rfl) ?_
          refine m_get F hI 13 (by decide) rfl flX2_41 dX2_comes_77 ?_
          refine lv_bipush (v := nI 8) hx hb dX2_comes_80 (by decide) ?_
          refine lv_iload hx hb dX2_comes_82 (lv_at hl 0 rfl) ?_
          refine lv_imul hx hb dX2_comes_84 ?_
          refine ktop (y := nI (8 * (i))) (pk_mul _ _) ?_
          refine lv_iconst (v := nI 1) hx hb dX2_comes_85 (by decide) ?_
          refine lv_iadd hx hb dX2_comes_86 ?_
          refine ktop (y := nI ((8 * (i)) + 1)) (nI_add _ _) ?_
          refine m_ald F hI  10 (show ((8 * (i)) + 1) < 160 by omega) rfl dX2_comes_87 ?_
          refine lv_iload_n hx hb dX2_comes_88 rfl (lv_at hl 3 rfl) ?_
          refine lv_ishr hx hb dX2_comes_89 ?_
          refine lv_iconst (v := nI 1) hx hb dX2_comes_90 (by decide) ?_
          refine lv_iand hx hb dX2_comes_91 ?_
          refine lv_iconst (v := nI 1) hx hb dX2_comes_92 (by decide) ?_
          refine lv_icmp_ne (tgt := 99) hx hb dX2_comes_93 (by decide) (fun c93 => ?_) (fun c93 => ?_)
          ·
            refine lv_aload_n hx hb dX2_comes_99 rfl (lv_at hl 1 rfl) ?_
            refine m_get F hI 13 (by decide) rfl flX2_41 dX2_comes_100 ?_
            refine lv_bipush (v := nI 8) hx hb dX2_comes_103 (by decide) ?_
            refine lv_iload hx hb dX2_comes_105 (lv_at hl 0 rfl) ?_
            refine lv_imul hx hb dX2_comes_107 ?_
            refine ktop (y := nI (8 * (i))) (pk_mul _ _) ?_
            refine lv_iconst (v := nI 1) hx hb dX2_comes_108 (by decide) ?_
            refine lv_iadd hx hb dX2_comes_109 ?_
            refine ktop (y := nI ((8 * (i)) + 1)) (nI_add _ _) ?_
            refine lv_dup2_11 hx hb dX2_comes_110 rfl rfl ?_
            refine m_ald F hI  10 (show ((8 * (i)) + 1) < 160 by omega) rfl dX2_comes_111 ?_
            refine lv_iconst (v := nI 1) hx hb dX2_comes_112 (by decide) ?_
            refine lv_iload_n hx hb dX2_comes_113 rfl (lv_at hl 3 rfl) ?_
            refine lv_ishl hx hb dX2_comes_114 ?_
            refine lv_ior hx hb dX2_comes_115 ?_
            refine m_ast F hI 10 (show ((8 * (i)) + 1) < 160 by omega) rfl dX2_comes_116 (fun H locs hI => ?_)
            have hI : kI D _ A s.heap (mor st 10 (8 * i + 1) (nI 1 <<< (nI pq &&& 31))) H locs := hI
            generalize hS116 : mor st 10 (8 * i + 1) (nI 1 <<< (nI pq &&& 31)) = S116 at hI
            refine lv_aload_n hx hb dX2_comes_117 rfl (lv_at hl 1 rfl) ?_
            refine m_get F hI 13 (by decide) rfl flX2_41 dX2_comes_118 ?_
            refine lv_bipush (v := nI 8) hx hb dX2_comes_121 (by decide) ?_
            refine lv_iload hx hb dX2_comes_123 (lv_at hl 0 rfl) ?_
            refine lv_imul hx hb dX2_comes_125 ?_
            refine ktop (y := nI (8 * (i))) (pk_mul _ _) ?_
            refine lv_iconst (v := nI 3) hx hb dX2_comes_126 (by decide) ?_
            refine lv_iadd hx hb dX2_comes_127 ?_
            refine ktop (y := nI ((8 * (i)) + 3)) (nI_add _ _) ?_
            refine lv_dup2_11 hx hb dX2_comes_128 rfl rfl ?_
            refine m_ald F hI  10 (show ((8 * (i)) + 3) < 160 by omega) rfl dX2_comes_129 ?_
            refine lv_iload hx hb dX2_comes_130 (lv_at hl 6 rfl) ?_
            refine lv_iadd hx hb dX2_comes_132 ?_
            refine m_ast F hI 10 (show ((8 * (i)) + 3) < 160 by omega) rfl dX2_comes_133 (fun H locs hI => ?_)
            have hI : kI D _ A s.heap (madd S116 10 (8 * i + 3) (nI z)) H locs := hI
            generalize hS133 : madd S116 10 (8 * i + 3) (nI z) = S133 at hI
            refine lv_iconst (v := nI 5) hx hb dX2_comes_134 (by decide) ?_
            exact kret_i F hI dX2_comes_135 (⟨by simp [m_comes, hh, hk, hw, h9, c73, c93, hcl], by simp [m_comes, hh, hk, hw, h9, c73, c93, hcl, m_late, hS116, hS133]⟩)
          ·
            refine lv_bipush (v := nI 6) hx hb dX2_comes_96 (by decide) ?_
            exact kret_i F hI dX2_comes_98 (⟨by simp [m_comes, hh, hk, hw, h9, c73, c93, hcl], by simp [m_comes, hh, hk, hw, h9, c73, c93, hcl]⟩)
    · have hw2 : m_known st n = false := by simpa using hw
      by_cases h24 : m_wm st = nI 24
      · have hl := hl
        refine lv_aload_n hx hb dX2_comes_0 rfl (lv_at hl 0 rfl) ?_
        refine lv_iload_n hx hb dX2_comes_1 rfl (lv_at hl 1 rfl) ?_
        refine kcallV (rest := []) F hA hI (mc_homeOf l _ n hn) kgX2_61 (m_rec F hI) hl.1 rfl rfl (Nat.le_of_ble_eq_true rfl) dX2_comes_2 ⟨Nat.le_of_ble_eq_true rfl, Nat.le_of_ble_eq_true rfl⟩ ⟨Nat.le_of_ble_eq_true rfl, Nat.le_of_ble_eq_true rfl⟩ (fun vq uq H locs hp hI => ?_)
        obtain ⟨rfl, hu⟩ := hp
        rw [hu] at hI
        clear hu
        refine kstk (b := .int _ :: []) rfl ?_
        refine lv_bipush (v := -9) hx hb dX2_comes_5 (by decide) ?_
        refine lv_icmp_ne (tgt := 13) hx hb dX2_comes_7 (by decide) (fun c7 => ?_) (fun c7 => absurd c7 (hh))
        refine lv_aload_n hx hb dX2_comes_13 rfl (lv_at hl 0 rfl) ?_
        refine m_get F hI 5 (by decide) rfl flX2_17 dX2_comes_14 ?_
        refine lv_iload_n hx hb dX2_comes_17 rfl (lv_at hl 1 rfl) ?_
        refine m_ald F hI  2 (show n < 100 by omega) rfl dX2_comes_18 ?_
        refine lv_bipush (v := -9) hx hb dX2_comes_19 (by decide) ?_
        refine lv_icmp_eq (tgt := 34) hx hb dX2_comes_21 (by decide) (fun c21 => ?_) (fun c21 => absurd c21 ((fun q => q hk)))
        refine lv_aload_n hx hb dX2_comes_34 rfl (lv_at hl 0 rfl) ?_
        refine lv_iload_n hx hb dX2_comes_35 rfl (lv_at hl 1 rfl) ?_
        refine kcallV (rest := []) F hA hI (mc_known l _ n hn) kgX2_93 (m_rec F hI) hl.1 rfl rfl (Nat.le_of_ble_eq_true rfl) dX2_comes_36 ⟨Nat.le_of_ble_eq_true rfl, Nat.le_of_ble_eq_true rfl⟩ ⟨Nat.le_of_ble_eq_true rfl, Nat.le_of_ble_eq_true rfl⟩ (fun vq uq H locs hp hI => ?_)
        obtain ⟨rfl, hu⟩ := hp
        rw [hu] at hI
        clear hu
        refine kstk (b := .int _ :: []) rfl ?_
        refine lv_if_eq (tgt := 136) hx hb dX2_comes_39 (by decide) (fun c39 => ?_) (fun c39 => absurd c39 ((fun q => q (bI_z.mpr hw2))))
        refine lv_aload_n hx hb dX2_comes_136 rfl (lv_at hl 0 rfl) ?_
        refine kcallV (rest := []) F hA hI (mc_waitingMany l _) kgX2_100 (m_rec F hI) hl.1 rfl rfl (Nat.le_of_ble_eq_true rfl) dX2_comes_137 ⟨Nat.le_of_ble_eq_true rfl, Nat.le_of_ble_eq_true rfl⟩ ⟨Nat.le_of_ble_eq_true rfl, Nat.le_of_ble_eq_true rfl⟩ (fun vq uq H locs hp hI => ?_)
        obtain ⟨rfl, hu⟩ := hp
        rw [hu] at hI
        clear hu
        refine kstk (b := .int _ :: []) rfl ?_
        refine lv_bipush (v := nI 24) hx hb dX2_comes_140 (by decide) ?_
        refine lv_icmp_ne (tgt := 148) hx hb dX2_comes_142 (by decide) (fun c142 => absurd c142 ((fun q => q h24))) (fun c142 => ?_)
        refine lv_bipush (v := nI 7) hx hb dX2_comes_145 (by decide) ?_
        exact kret_i F hI dX2_comes_147 (⟨by simp [m_comes, hh, hk, hw, h24], by simp [m_comes, hh, hk, hw, h24]⟩)
      · have hl := hl
        refine lv_aload_n hx hb dX2_comes_0 rfl (lv_at hl 0 rfl) ?_
        refine lv_iload_n hx hb dX2_comes_1 rfl (lv_at hl 1 rfl) ?_
        refine kcallV (rest := []) F hA hI (mc_homeOf l _ n hn) kgX2_61 (m_rec F hI) hl.1 rfl rfl (Nat.le_of_ble_eq_true rfl) dX2_comes_2 ⟨Nat.le_of_ble_eq_true rfl, Nat.le_of_ble_eq_true rfl⟩ ⟨Nat.le_of_ble_eq_true rfl, Nat.le_of_ble_eq_true rfl⟩ (fun vq uq H locs hp hI => ?_)
        obtain ⟨rfl, hu⟩ := hp
        rw [hu] at hI
        clear hu
        refine kstk (b := .int _ :: []) rfl ?_
        refine lv_bipush (v := -9) hx hb dX2_comes_5 (by decide) ?_
        refine lv_icmp_ne (tgt := 13) hx hb dX2_comes_7 (by decide) (fun c7 => ?_) (fun c7 => absurd c7 (hh))
        refine lv_aload_n hx hb dX2_comes_13 rfl (lv_at hl 0 rfl) ?_
        refine m_get F hI 5 (by decide) rfl flX2_17 dX2_comes_14 ?_
        refine lv_iload_n hx hb dX2_comes_17 rfl (lv_at hl 1 rfl) ?_
        refine m_ald F hI  2 (show n < 100 by omega) rfl dX2_comes_18 ?_
        refine lv_bipush (v := -9) hx hb dX2_comes_19 (by decide) ?_
        refine lv_icmp_eq (tgt := 34) hx hb dX2_comes_21 (by decide) (fun c21 => ?_) (fun c21 => absurd c21 ((fun q => q hk)))
        refine lv_aload_n hx hb dX2_comes_34 rfl (lv_at hl 0 rfl) ?_
        refine lv_iload_n hx hb dX2_comes_35 rfl (lv_at hl 1 rfl) ?_
        refine kcallV (rest := []) F hA hI (mc_known l _ n hn) kgX2_93 (m_rec F hI) hl.1 rfl rfl (Nat.le_of_ble_eq_true rfl) dX2_comes_36 ⟨Nat.le_of_ble_eq_true rfl, Nat.le_of_ble_eq_true rfl⟩ ⟨Nat.le_of_ble_eq_true rfl, Nat.le_of_ble_eq_true rfl⟩ (fun vq uq H locs hp hI => ?_)
        obtain ⟨rfl, hu⟩ := hp
        rw [hu] at hI
        clear hu
        refine kstk (b := .int _ :: []) rfl ?_
        refine lv_if_eq (tgt := 136) hx hb dX2_comes_39 (by decide) (fun c39 => ?_) (fun c39 => absurd c39 ((fun q => q (bI_z.mpr hw2))))
        refine lv_aload_n hx hb dX2_comes_136 rfl (lv_at hl 0 rfl) ?_
        refine kcallV (rest := []) F hA hI (mc_waitingMany l _) kgX2_100 (m_rec F hI) hl.1 rfl rfl (Nat.le_of_ble_eq_true rfl) dX2_comes_137 ⟨Nat.le_of_ble_eq_true rfl, Nat.le_of_ble_eq_true rfl⟩ ⟨Nat.le_of_ble_eq_true rfl, Nat.le_of_ble_eq_true rfl⟩ (fun vq uq H locs hp hI => ?_)
        obtain ⟨rfl, hu⟩ := hp
        rw [hu] at hI
        clear hu
        refine kstk (b := .int _ :: []) rfl ?_
        refine lv_bipush (v := nI 24) hx hb dX2_comes_140 (by decide) ?_
        refine lv_icmp_ne (tgt := 148) hx hb dX2_comes_142 (by decide) (fun c142 => ?_) (fun c142 => absurd c142 (h24))
        refine lv_aload_n hx hb dX2_comes_148 rfl (lv_at hl 0 rfl) ?_
        refine m_get F hI 5 (by decide) rfl flX2_17 dX2_comes_149 ?_
        refine lv_iload_n hx hb dX2_comes_152 rfl (lv_at hl 1 rfl) ?_
        refine lv_aload_n hx hb dX2_comes_153 rfl (lv_at hl 0 rfl) ?_
        refine lv_iload_n hx hb dX2_comes_154 rfl (lv_at hl 1 rfl) ?_
        refine kcallV (rest := [.int _, .ref _]) F hA hI (mc_homeOf l _ n hn) kgX2_61 (m_rec F hI) hl.1 rfl rfl (Nat.le_of_ble_eq_true rfl) dX2_comes_155 ⟨Nat.le_of_ble_eq_true rfl, Nat.le_of_ble_eq_true rfl⟩ ⟨Nat.le_of_ble_eq_true rfl, Nat.le_of_ble_eq_true rfl⟩ (fun vq uq H locs hp hI => ?_)
        obtain ⟨rfl, hu⟩ := hp
        rw [hu] at hI
        clear hu
        refine kstk (b := .int _ :: [.int _, .ref _]) rfl ?_
        refine m_ast F hI 2 (show n < 100 by omega) rfl dX2_comes_158 (fun H locs hI => ?_)
        have hI : kI D _ A s.heap (mset st 2 n (hm (m_up st) n)) H locs := hI
        generalize hS158 : mset st 2 n (hm (m_up st) n) = S158 at hI
        refine lv_aload_n hx hb dX2_comes_159 rfl (lv_at hl 0 rfl) ?_
        refine m_get F hI 6 (by decide) rfl flX2_20 dX2_comes_160 ?_
        refine lv_iload_n hx hb dX2_comes_163 rfl (lv_at hl 1 rfl) ?_
        refine lv_iconst (v := nI 0) hx hb dX2_comes_164 (by decide) ?_
        refine m_ast F hI 3 (show n < 100 by omega) rfl dX2_comes_165 (fun H locs hI => ?_)
        have hI : kI D _ A s.heap (mset S158 3 n (nI 0)) H locs := hI
        generalize hS165 : mset S158 3 n (nI 0) = S165 at hI
        refine lv_aload_n hx hb dX2_comes_166 rfl (lv_at hl 0 rfl) ?_
        refine m_get F hI 7 (by decide) rfl flX2_23 dX2_comes_167 ?_
        refine lv_iload_n hx hb dX2_comes_170 rfl (lv_at hl 1 rfl) ?_
        refine lv_iload hx hb dX2_comes_171 (lv_at hl 4 rfl) ?_
        refine m_ast F hI 4 (show n < 100 by omega) rfl dX2_comes_173 (fun H locs hI => ?_)
        have hI : kI D _ A s.heap (mset S165 4 n (nI sh)) H locs := hI
        generalize hS173 : mset S165 4 n (nI sh) = S173 at hI
        refine lv_aload_n hx hb dX2_comes_174 rfl (lv_at hl 0 rfl) ?_
        refine m_get F hI 8 (by decide) rfl flX2_26 dX2_comes_175 ?_
        refine lv_iload_n hx hb dX2_comes_178 rfl (lv_at hl 1 rfl) ?_
        refine lv_iconst (v := nI 0) hx hb dX2_comes_179 (by decide) ?_
        refine m_ast F hI 5 (show n < 100 by omega) rfl dX2_comes_180 (fun H locs hI => ?_)
        have hI : kI D _ A s.heap (mset S173 5 n (nI 0)) H locs := hI
        generalize hS180 : mset S173 5 n (nI 0) = S180 at hI
        refine lv_aload_n hx hb dX2_comes_181 rfl (lv_at hl 0 rfl) ?_
        refine m_get F hI 9 (by decide) rfl flX2_29 dX2_comes_182 ?_
        refine lv_iload_n hx hb dX2_comes_185 rfl (lv_at hl 1 rfl) ?_
        refine lv_bipush (v := -9) hx hb dX2_comes_186 (by decide) ?_
        refine m_ast F hI 6 (show n < 100 by omega) rfl dX2_comes_188 (fun H locs hI => ?_)
        have hI : kI D _ A s.heap (mset S180 6 n (-9)) H locs := hI
        generalize hS188 : mset S180 6 n (-9) = S188 at hI
        refine lv_aload_n hx hb dX2_comes_189 rfl (lv_at hl 0 rfl) ?_
        refine m_get F hI 10 (by decide) rfl flX2_32 dX2_comes_190 ?_
        refine lv_iload_n hx hb dX2_comes_193 rfl (lv_at hl 1 rfl) ?_
        refine lv_aload_n hx hb dX2_comes_194 rfl (lv_at hl 0 rfl) ?_
        refine m_get F hI 1 (by decide) rfl flX2_79 dX2_comes_195 ?_
        refine m_ast F hI 7 (show n < 100 by omega) rfl dX2_comes_198 (fun H locs hI => ?_)
        have hI : kI D _ A s.heap (mnw S188 7 n) H locs := hI
        generalize hS198 : mnw S188 7 n = S198 at hI
        refine lv_aload_n hx hb dX2_comes_199 rfl (lv_at hl 0 rfl) ?_
        refine lv_iload_n hx hb dX2_comes_200 rfl (lv_at hl 1 rfl) ?_
        refine lv_iload_n hx hb dX2_comes_201 rfl (lv_at hl 2 rfl) ?_
        refine lv_iload_n hx hb dX2_comes_202 rfl (lv_at hl 3 rfl) ?_
        refine lv_iload hx hb dX2_comes_203 (lv_at hl 5 rfl) ?_
        have h4 : S198.1 4 n = nI sh := by rw [← hS198, mnw, mset_k (by decide), ← hS188, mset_k (by decide), ← hS180, mset_k (by decide), ← hS173, mset_s]
        have h5 : S198.1 5 n = nI 0 := by rw [← hS198, mnw, mset_k (by decide), ← hS188, mset_k (by decide), ← hS180, mset_s]
        have h6 : S198.2.2.2 ≤ 20 := by rw [← hS198, ← hS188, ← hS180, ← hS173, ← hS165, ← hS158]; exact hkm
        have h7 : S198 = m_first st n sh := by rw [m_first, hS158, hS165, hS173, hS180, hS188, hS198]
        refine kcallV (rest := []) F hA hI (mc_joins l _ n pq il z sh 0 hn hp hz hs h4 h5 (fun _ => by omega) h6) kgX2_89 (m_rec F hI) hl.1 rfl rfl (Nat.le_of_ble_eq_true rfl) dX2_comes_205 ⟨Nat.le_of_ble_eq_true rfl, Nat.le_of_ble_eq_true rfl⟩ ⟨Nat.le_of_ble_eq_true rfl, Nat.le_of_ble_eq_true rfl⟩ (fun vq uq H locs hp hI => ?_)
        obtain ⟨rfl, hu⟩ := hp
        rw [hu] at hI
        clear hu
        refine kstk (b := .int _ :: []) rfl ?_
        exact kret_i F hI dX2_comes_208 (⟨by simp [m_comes, hh, hk, hw, h24, ← h7], by simp [m_comes, hh, hk, hw, h24, ← h7]⟩)
  · obtain ⟨sh', zl, q1, q2, q3, q4⟩ := hj hk
    refine lv_aload_n hx hb dX2_comes_0 rfl (lv_at hl 0 rfl) ?_
    refine lv_iload_n hx hb dX2_comes_1 rfl (lv_at hl 1 rfl) ?_
    refine kcallV (rest := []) F hA hI (mc_homeOf l _ n hn) kgX2_61 (m_rec F hI) hl.1 rfl rfl (Nat.le_of_ble_eq_true rfl) dX2_comes_2 ⟨Nat.le_of_ble_eq_true rfl, Nat.le_of_ble_eq_true rfl⟩ ⟨Nat.le_of_ble_eq_true rfl, Nat.le_of_ble_eq_true rfl⟩ (fun vq uq H locs hp hI => ?_)
    obtain ⟨rfl, hu⟩ := hp
    rw [hu] at hI
    clear hu
    refine kstk (b := .int _ :: []) rfl ?_
    refine lv_bipush (v := -9) hx hb dX2_comes_5 (by decide) ?_
    refine lv_icmp_ne (tgt := 13) hx hb dX2_comes_7 (by decide) (fun c7 => ?_) (fun c7 => absurd c7 (hh))
    refine lv_aload_n hx hb dX2_comes_13 rfl (lv_at hl 0 rfl) ?_
    refine m_get F hI 5 (by decide) rfl flX2_17 dX2_comes_14 ?_
    refine lv_iload_n hx hb dX2_comes_17 rfl (lv_at hl 1 rfl) ?_
    refine m_ald F hI  2 (show n < 100 by omega) rfl dX2_comes_18 ?_
    refine lv_bipush (v := -9) hx hb dX2_comes_19 (by decide) ?_
    refine lv_icmp_eq (tgt := 34) hx hb dX2_comes_21 (by decide) (fun c21 => absurd c21 (hk)) (fun c21 => ?_)
    refine lv_aload_n hx hb dX2_comes_24 rfl (lv_at hl 0 rfl) ?_
    refine lv_iload_n hx hb dX2_comes_25 rfl (lv_at hl 1 rfl) ?_
    refine lv_iload_n hx hb dX2_comes_26 rfl (lv_at hl 2 rfl) ?_
    refine lv_iload_n hx hb dX2_comes_27 rfl (lv_at hl 3 rfl) ?_
    refine lv_iload hx hb dX2_comes_28 (lv_at hl 5 rfl) ?_
    refine kcallV (rest := []) F hA hI (mc_joins l _ n pq il z sh' zl hn hp hz q1 q2 q3 q4 hkm) kgX2_89 (m_rec F hI) hl.1 rfl rfl (Nat.le_of_ble_eq_true rfl) dX2_comes_30 ⟨Nat.le_of_ble_eq_true rfl, Nat.le_of_ble_eq_true rfl⟩ ⟨Nat.le_of_ble_eq_true rfl, Nat.le_of_ble_eq_true rfl⟩ (fun vq uq H locs hp hI => ?_)
    obtain ⟨rfl, hu⟩ := hp
    rw [hu] at hI
    clear hu
    refine kstk (b := .int _ :: []) rfl ?_
    exact kret_i F hI dX2_comes_33 (⟨by simp [m_comes, hh, hk], by simp [m_comes, hh, hk]⟩)
theorem mc_piece (st : MS) (n pq : Nat) (il : Bool) (sh z : Nat) (hn : n < 100) (hp : pq < 8) (hs : sh < 5) (hz1 : 1 ≤ z) (hz : z ≤ 1000) (hj : ¬ st.1 2 n = -9 → ∃ sh' zl, sh' < 5 ∧ st.1 4 n = nI sh' ∧ st.1 5 n = nI zl ∧ (¬ (st.1 3 n >>> (nI pq &&& 31)) &&& nI 1 = nI 1 → zl + z < 8192)) (hkm : st.2.2.2 ≤ 20) : kM l yX2_piece cX2_piece 7 (some .int) 4 100 0 0 D (mty K) (mw g K) [.ref (g 0), .int (nI n), .int (nI pq), .int (bI il), .int (nI sh), .int (nI z)] st (fun v u => v = some (.int (nI (m_piece st n pq il sh z).1)) ∧ u = (m_piece st n pq il sh z).2) := by
  refine kM_intro (by decide) (Nat.le_of_ble_eq_true rfl) ?_
  intro p e s m below meth c A ls F hA hI hl
  obtain ⟨hx, hb, hr, hml, hown, hts, hlk, hK, hnm⟩ := id F
  have hl : lv_has ls 7 [(0, .ref (g 0)), (1, .int (nI n)), (2, .int (nI pq)), (3, .int (bI il)), (4, .int (nI sh)), (5, .int (nI z))] := hl
  have g1 : inR (nI n) (nI 0) (nI 99) = true := inR_in (by decide) (by omega) (by omega)
  have g2 : inR (nI pq) (nI 0) (nI 7) = true := inR_in (by decide) (by omega) (by omega)
  have g3 : inR (nI sh) (nI 0) (nI 4) = true := inR_in (by decide) (by omega) (by omega)
  have g4 : inR (nI z) (nI 1) (nI 1000) = true := inR_in (by decide) (by omega) (by omega)
  generalize hq : m_comes st n pq il sh z = q
  have hq7 : q.1 ≤ 7 := by rw [← hq]; exact m_comes_le _ _ _ _ _ _
  refine lv_aload_n hx hb dX2_piece_0 rfl (lv_at hl 0 rfl) ?_
  refine lv_iconst (v := nI 0) hx hb dX2_piece_1 (by decide) ?_
  refine m_putTh F hI flX2_53 dX2_piece_2 (fun H locs hI => ?_)
  refine lv_iload_n hx hb dX2_piece_5 rfl (lv_at hl 1 rfl) ?_
  refine lv_iconst (v := nI 0) hx hb dX2_piece_6 (by decide) ?_
  refine lv_bipush (v := nI 99) hx hb dX2_piece_7 (by decide) ?_
  refine kcallS (rest := []) F hA hI (mc_in l _ _ _ _) kgX2_57 hl.1 rfl rfl (Nat.le_of_ble_eq_true rfl) dX2_piece_9 ⟨Nat.le_of_ble_eq_true rfl, Nat.le_of_ble_eq_true rfl⟩ ⟨Nat.le_of_ble_eq_true rfl, Nat.le_of_ble_eq_true rfl⟩ (fun vq uq H locs hp hI => ?_)
  obtain ⟨rfl, hu⟩ := hp
  rw [hu] at hI
  clear hu
  refine kstk (b := .int _ :: []) rfl ?_
  refine lv_if_eq (tgt := 47) hx hb dX2_piece_12 (by decide) (fun c12 => absurd c12 ((fun q => by rw [bI_z, g1] at q; cases q))) (fun c12 => ?_)
  refine lv_iload_n hx hb dX2_piece_15 rfl (lv_at hl 2 rfl) ?_
  refine lv_iconst (v := nI 0) hx hb dX2_piece_16 (by decide) ?_
  refine lv_bipush (v := nI 7) hx hb dX2_piece_17 (by decide) ?_
  refine kcallS (rest := []) F hA hI (mc_in l _ _ _ _) kgX2_57 hl.1 rfl rfl (Nat.le_of_ble_eq_true rfl) dX2_piece_19 ⟨Nat.le_of_ble_eq_true rfl, Nat.le_of_ble_eq_true rfl⟩ ⟨Nat.le_of_ble_eq_true rfl, Nat.le_of_ble_eq_true rfl⟩ (fun vq uq H locs hp hI => ?_)
  obtain ⟨rfl, hu⟩ := hp
  rw [hu] at hI
  clear hu
  refine kstk (b := .int _ :: []) rfl ?_
  refine lv_if_eq (tgt := 47) hx hb dX2_piece_22 (by decide) (fun c22 => absurd c22 ((fun q => by rw [bI_z, g2] at q; cases q))) (fun c22 => ?_)
  refine lv_iload hx hb dX2_piece_25 (lv_at hl 4 rfl) ?_
  refine lv_iconst (v := nI 0) hx hb dX2_piece_27 (by decide) ?_
  refine lv_iconst (v := nI 4) hx hb dX2_piece_28 (by decide) ?_
  refine kcallS (rest := []) F hA hI (mc_in l _ _ _ _) kgX2_57 hl.1 rfl rfl (Nat.le_of_ble_eq_true rfl) dX2_piece_29 ⟨Nat.le_of_ble_eq_true rfl, Nat.le_of_ble_eq_true rfl⟩ ⟨Nat.le_of_ble_eq_true rfl, Nat.le_of_ble_eq_true rfl⟩ (fun vq uq H locs hp hI => ?_)
  obtain ⟨rfl, hu⟩ := hp
  rw [hu] at hI
  clear hu
  refine kstk (b := .int _ :: []) rfl ?_
  refine lv_if_eq (tgt := 47) hx hb dX2_piece_32 (by decide) (fun c32 => absurd c32 ((fun q => by rw [bI_z, g3] at q; cases q))) (fun c32 => ?_)
  refine lv_iload hx hb dX2_piece_35 (lv_at hl 5 rfl) ?_
  refine lv_iconst (v := nI 1) hx hb dX2_piece_37 (by decide) ?_
  refine lv_sipush (v := nI 1000) hx hb dX2_piece_38 (by decide) ?_
  refine kcallS (rest := []) F hA hI (mc_in l _ _ _ _) kgX2_57 hl.1 rfl rfl (Nat.le_of_ble_eq_true rfl) dX2_piece_41 ⟨Nat.le_of_ble_eq_true rfl, Nat.le_of_ble_eq_true rfl⟩ ⟨Nat.le_of_ble_eq_true rfl, Nat.le_of_ble_eq_true rfl⟩ (fun vq uq H locs hp hI => ?_)
  obtain ⟨rfl, hu⟩ := hp
  rw [hu] at hI
  clear hu
  refine kstk (b := .int _ :: []) rfl ?_
  refine lv_if_ne (tgt := 49) hx hb dX2_piece_44 (by decide) (fun c44 => ?_) (fun c44 => absurd c44 ((fun q => by rw [bI_z, g4] at q; cases q)))
  refine lv_aload_n hx hb dX2_piece_49 rfl (lv_at hl 0 rfl) ?_
  refine lv_iload_n hx hb dX2_piece_50 rfl (lv_at hl 1 rfl) ?_
  refine lv_iload_n hx hb dX2_piece_51 rfl (lv_at hl 2 rfl) ?_
  refine lv_iload_n hx hb dX2_piece_52 rfl (lv_at hl 3 rfl) ?_
  refine lv_iload hx hb dX2_piece_53 (lv_at hl 4 rfl) ?_
  refine lv_iload hx hb dX2_piece_55 (lv_at hl 5 rfl) ?_
  refine kcallV (rest := []) F hA hI (mc_comes l _ n pq il sh z hn hp hs hz hj hkm) kgX2_104 (m_rec F hI) hl.1 rfl rfl (Nat.le_of_ble_eq_true rfl) dX2_piece_57 ⟨Nat.le_of_ble_eq_true rfl, Nat.le_of_ble_eq_true rfl⟩ ⟨Nat.le_of_ble_eq_true rfl, Nat.le_of_ble_eq_true rfl⟩ (fun vq uq H locs hp hI => ?_)
  obtain ⟨rfl, hu⟩ := hp
  rw [hu, hq] at hI
  rw [hq]
  clear hu
  refine kstk (b := .int _ :: []) rfl ?_
  refine lv_istore (lv' := [(6, .int _), (0, .ref _), (1, .int _), (2, .int _), (3, .int _), (4, .int _), (5, .int _)]) hx hb dX2_piece_60 hl (by decide) rfl (fun ls hl => ?_)
  refine lv_iload hx hb dX2_piece_62 (lv_at hl 0 rfl) ?_
  refine lv_iconst (v := nI 3) hx hb dX2_piece_64 (by decide) ?_
  refine lv_icmp_lt (tgt := 81) hx hb dX2_piece_65 (by decide) (fun c65 => ?_) (fun c65 => ?_)
  ·
    rw [nI_ltI (by omega) (by omega)] at c65
    refine lv_iload hx hb dX2_piece_81 (lv_at hl 0 rfl) ?_
    exact kret_i F hI dX2_piece_83 (⟨by simp [m_piece, hq, show ¬ 3 ≤ q.1 by omega], by simp [m_piece, hq, show ¬ 3 ≤ q.1 by omega]⟩)
  ·
    rw [nI_ltI (by omega) (by omega)] at c65
    refine lv_aload_n hx hb dX2_piece_68 rfl (lv_at hl 1 rfl) ?_
    refine m_get F hI 17 (by decide) rfl flX2_50 dX2_piece_69 ?_
    refine lv_iload hx hb dX2_piece_72 (lv_at hl 0 rfl) ?_
    refine lv_iconst (v := nI 2) hx hb dX2_piece_74 (by decide) ?_
    refine lv_iadd hx hb dX2_piece_75 ?_
    refine ktop (y := nI (q.1 + 2)) (nI_add _ _) ?_
    refine lv_dup2_11 hx hb dX2_piece_76 rfl rfl ?_
    refine m_ald F hI  13 (show (q.1 + 2) < 13 by omega) rfl dX2_piece_77 ?_
    refine lv_iconst (v := nI 1) hx hb dX2_piece_78 (by decide) ?_
    refine lv_iadd hx hb dX2_piece_79 ?_
    refine m_ast F hI 13 (show (q.1 + 2) < 13 by omega) rfl dX2_piece_80 (fun H locs hI => ?_)
    refine lv_iload hx hb dX2_piece_81 (lv_at hl 0 rfl) ?_
    exact kret_i F hI dX2_piece_83 (⟨by simp [m_piece, hq, show 3 ≤ q.1 by omega], by simp [m_piece, hq, show 3 ≤ q.1 by omega, m_inc]⟩)
theorem mc_piece_bad (st : MS) (n pq sh z : Int32) (il : Bool) (h : inR n (nI 0) (nI 99) = false ∨ inR pq (nI 0) (nI 7) = false ∨ inR sh (nI 0) (nI 4) = false ∨ inR z (nI 1) (nI 1000) = false) : kM l yX2_piece cX2_piece 7 (some .int) 4 100 0 0 D (mty K) (mw g K) [.ref (g 0), .int n, .int pq, .int (bI il), .int sh, .int z] st (fun v u => v = some (.int (-1)) ∧ u = st) := by
  refine kM_intro (by decide) (Nat.le_of_ble_eq_true rfl) ?_
  intro p e s m below meth c A ls F hA hI hl
  obtain ⟨hx, hb, hr, hml, hown, hts, hlk, hK, hnm⟩ := id F
  have hl : lv_has ls 7 [(0, .ref (g 0)), (1, .int n), (2, .int pq), (3, .int (bI il)), (4, .int sh), (5, .int z)] := hl
  refine lv_aload_n hx hb dX2_piece_0 rfl (lv_at hl 0 rfl) ?_
  refine lv_iconst (v := nI 0) hx hb dX2_piece_1 (by decide) ?_
  refine m_putTh F hI flX2_53 dX2_piece_2 (fun H locs hI => ?_)
  refine lv_iload_n hx hb dX2_piece_5 rfl (lv_at hl 1 rfl) ?_
  refine lv_iconst (v := nI 0) hx hb dX2_piece_6 (by decide) ?_
  refine lv_bipush (v := nI 99) hx hb dX2_piece_7 (by decide) ?_
  refine kcallS (rest := []) F hA hI (mc_in l _ _ _ _) kgX2_57 hl.1 rfl rfl (Nat.le_of_ble_eq_true rfl) dX2_piece_9 ⟨Nat.le_of_ble_eq_true rfl, Nat.le_of_ble_eq_true rfl⟩ ⟨Nat.le_of_ble_eq_true rfl, Nat.le_of_ble_eq_true rfl⟩ (fun vq uq H locs hp hI => ?_)
  obtain ⟨rfl, hu⟩ := hp
  rw [hu] at hI
  clear hu
  refine kstk (b := .int _ :: []) rfl ?_
  refine lv_if_eq (tgt := 47) hx hb dX2_piece_12 (by decide) (fun c12 => ?_) (fun c12 => ?_)
  ·
    rw [bI_z] at c12
    refine lv_iconst (v := -1) hx hb dX2_piece_47 (by decide) ?_
    exact kret_i F hI dX2_piece_48 (⟨rfl, rfl⟩)
  ·
    rw [bI_z] at c12
    refine lv_iload_n hx hb dX2_piece_15 rfl (lv_at hl 2 rfl) ?_
    refine lv_iconst (v := nI 0) hx hb dX2_piece_16 (by decide) ?_
    refine lv_bipush (v := nI 7) hx hb dX2_piece_17 (by decide) ?_
    refine kcallS (rest := []) F hA hI (mc_in l _ _ _ _) kgX2_57 hl.1 rfl rfl (Nat.le_of_ble_eq_true rfl) dX2_piece_19 ⟨Nat.le_of_ble_eq_true rfl, Nat.le_of_ble_eq_true rfl⟩ ⟨Nat.le_of_ble_eq_true rfl, Nat.le_of_ble_eq_true rfl⟩ (fun vq uq H locs hp hI => ?_)
    obtain ⟨rfl, hu⟩ := hp
    rw [hu] at hI
    clear hu
    refine kstk (b := .int _ :: []) rfl ?_
    refine lv_if_eq (tgt := 47) hx hb dX2_piece_22 (by decide) (fun c22 => ?_) (fun c22 => ?_)
    ·
      rw [bI_z] at c22
      refine lv_iconst (v := -1) hx hb dX2_piece_47 (by decide) ?_
      exact kret_i F hI dX2_piece_48 (⟨rfl, rfl⟩)
    ·
      rw [bI_z] at c22
      refine lv_iload hx hb dX2_piece_25 (lv_at hl 4 rfl) ?_
      refine lv_iconst (v := nI 0) hx hb dX2_piece_27 (by decide) ?_
      refine lv_iconst (v := nI 4) hx hb dX2_piece_28 (by decide) ?_
      refine kcallS (rest := []) F hA hI (mc_in l _ _ _ _) kgX2_57 hl.1 rfl rfl (Nat.le_of_ble_eq_true rfl) dX2_piece_29 ⟨Nat.le_of_ble_eq_true rfl, Nat.le_of_ble_eq_true rfl⟩ ⟨Nat.le_of_ble_eq_true rfl, Nat.le_of_ble_eq_true rfl⟩ (fun vq uq H locs hp hI => ?_)
      obtain ⟨rfl, hu⟩ := hp
      rw [hu] at hI
      clear hu
      refine kstk (b := .int _ :: []) rfl ?_
      refine lv_if_eq (tgt := 47) hx hb dX2_piece_32 (by decide) (fun c32 => ?_) (fun c32 => ?_)
      ·
        rw [bI_z] at c32
        refine lv_iconst (v := -1) hx hb dX2_piece_47 (by decide) ?_
        exact kret_i F hI dX2_piece_48 (⟨rfl, rfl⟩)
      ·
        rw [bI_z] at c32
        refine lv_iload hx hb dX2_piece_35 (lv_at hl 5 rfl) ?_
        refine lv_iconst (v := nI 1) hx hb dX2_piece_37 (by decide) ?_
        refine lv_sipush (v := nI 1000) hx hb dX2_piece_38 (by decide) ?_
        refine kcallS (rest := []) F hA hI (mc_in l _ _ _ _) kgX2_57 hl.1 rfl rfl (Nat.le_of_ble_eq_true rfl) dX2_piece_41 ⟨Nat.le_of_ble_eq_true rfl, Nat.le_of_ble_eq_true rfl⟩ ⟨Nat.le_of_ble_eq_true rfl, Nat.le_of_ble_eq_true rfl⟩ (fun vq uq H locs hp hI => ?_)
        obtain ⟨rfl, hu⟩ := hp
        rw [hu] at hI
        clear hu
        refine kstk (b := .int _ :: []) rfl ?_
        refine lv_if_ne (tgt := 49) hx hb dX2_piece_44 (by decide) (fun c44 => absurd c44 ((fun q => q (bI_z.mpr ((h.resolve_left c12).resolve_left c22 |>.resolve_left c32))))) (fun c44 => ?_)
        refine lv_iconst (v := -1) hx hb dX2_piece_47 (by decide) ?_
        exact kret_i F hI dX2_piece_48 (⟨rfl, rfl⟩)
theorem mc_tick (st : MS) (nt : Nat) (h1 : 1 ≤ nt) (h60 : nt ≤ 60) (hok : mokT st) : kM l yX2_tick cX2_tick 5 (some .int) 2 50 0 0 D (mty K) (mw g K) [.ref (g 0), .int (nI nt)] st (fun v u => v = some (.int ((m_tkL nt st).1 13 10 - st.1 13 10)) ∧ u = m_tkL nt st) := by
  refine kM_intro (by decide) (Nat.le_of_ble_eq_true rfl) ?_
  intro p e s m below meth c A ls F hA hI hl
  obtain ⟨hx, hb, hr, hml, hown, hts, hlk, hK, hnm⟩ := id F
  have hl : lv_has ls 5 [(0, .ref (g 0)), (1, .int (nI nt))] := hl
  have g1 : inR (nI nt) (nI 1) (nI 60) = true := inR_in (by decide) (by omega) (by omega)
  refine lv_aload_n hx hb dX2_tick_0 rfl (lv_at hl 0 rfl) ?_
  refine lv_iconst (v := nI 0) hx hb dX2_tick_1 (by decide) ?_
  refine m_putTh F hI flX2_53 dX2_tick_2 (fun H locs hI => ?_)
  refine lv_iload_n hx hb dX2_tick_5 rfl (lv_at hl 1 rfl) ?_
  refine lv_iconst (v := nI 1) hx hb dX2_tick_6 (by decide) ?_
  refine lv_bipush (v := nI 60) hx hb dX2_tick_7 (by decide) ?_
  refine kcallS (rest := []) F hA hI (mc_in l _ _ _ _) kgX2_57 hl.1 rfl rfl (Nat.le_of_ble_eq_true rfl) dX2_tick_9 ⟨Nat.le_of_ble_eq_true rfl, Nat.le_of_ble_eq_true rfl⟩ ⟨Nat.le_of_ble_eq_true rfl, Nat.le_of_ble_eq_true rfl⟩ (fun vq uq H locs hp hI => ?_)
  obtain ⟨rfl, hu⟩ := hp
  rw [hu] at hI
  clear hu
  refine kstk (b := .int _ :: []) rfl ?_
  refine lv_if_ne (tgt := 17) hx hb dX2_tick_12 (by decide) (fun c12 => ?_) (fun c12 => absurd c12 ((fun q => by rw [bI_z, g1] at q; cases q)))
  refine lv_aload_n hx hb dX2_tick_17 rfl (lv_at hl 0 rfl) ?_
  refine m_get F hI 17 (by decide) rfl flX2_50 dX2_tick_18 ?_
  refine lv_bipush (v := nI 10) hx hb dX2_tick_21 (by decide) ?_
  refine m_ald F hI  13 (show 10 < 13 by omega) rfl dX2_tick_23 ?_
  refine lv_istore_n (lv' := [(2, .int _), (0, .ref _), (1, .int _)]) hx hb dX2_tick_24 rfl hl (by decide) rfl (fun ls hl => ?_)
  refine lv_iconst (v := nI 0) hx hb dX2_tick_25 (by decide) ?_
  refine lv_istore_n (lv' := [(3, .int _), (2, .int _), (0, .ref _), (1, .int _)]) hx hb dX2_tick_26 rfl hl (by decide) rfl (fun ls hl => ?_)
  refine wloop (σ := Nat × Nat × MS) (fun x => x.1) (fun x H locs ls => x.2.1 + x.1 = nt ∧ m_tkL x.1 x.2.2 = m_tkL nt st ∧ mokT x.2.2 ∧ kI D (mw g K) A s.heap x.2.2 H locs ∧ lv_has ls 5 [(3, .int (nI x.2.1)), (2, .int (st.1 13 10)), (0, .ref (g 0)), (1, .int (nI nt))]) ?_ (nt, 0, st) _ _ _ ⟨Nat.zero_add _, rfl, hok, hI, lv_sub hl [0, 1, 2, 3] rfl⟩
  rintro ⟨f, t, u⟩ H locs ls ⟨hk, he, hok, hI, hl⟩ ih
  dsimp only at hk he hok hI hl ih
  refine lv_iload_n hx hb dX2_tick_27 rfl (lv_at hl 0 rfl) ?_
  refine lv_iload_n hx hb dX2_tick_28 rfl (lv_at hl 3 rfl) ?_
  refine lv_icmp_ge (tgt := 104) hx hb dX2_tick_29 (by decide) (fun c29 => ?_) (fun c29 => ?_)
  ·
    rw [nI_leI (by omega) (by omega)] at c29
    obtain rfl : f = 0 := by omega
    have he : u = m_tkL nt st := he
    refine lv_aload_n hx hb dX2_tick_104 rfl (lv_at hl 2 rfl) ?_
    refine m_get F hI 17 (by decide) rfl flX2_50 dX2_tick_105 ?_
    refine lv_bipush (v := nI 10) hx hb dX2_tick_108 (by decide) ?_
    refine m_ald F hI  13 (show 10 < 13 by omega) rfl dX2_tick_110 ?_
    refine lv_iload_n hx hb dX2_tick_111 rfl (lv_at hl 1 rfl) ?_
    refine lv_isub hx hb dX2_tick_112 ?_
    exact kret_i F hI dX2_tick_113 (⟨by rw [he], he⟩)
  ·
    rw [nI_leI (by omega) (by omega)] at c29
    obtain ⟨f, rfl⟩ : ∃ f', f = f' + 1 := ⟨f - 1, by omega⟩
    refine lv_aload_n hx hb dX2_tick_32 rfl (lv_at hl 2 rfl) ?_
    refine lv_dup hx hb dX2_tick_33 rfl ?_
    refine m_get F hI 1 (by decide) rfl flX2_79 dX2_tick_34 ?_
    refine lv_iconst (v := nI 1) hx hb dX2_tick_37 (by decide) ?_
    refine lv_iadd hx hb dX2_tick_38 ?_
    refine m_putNow F hI flX2_79 dX2_tick_39 (fun H locs hI => ?_)
    refine lv_iconst (v := nI 0) hx hb dX2_tick_42 (by decide) ?_
    refine lv_istore (lv' := [(4, .int _), (3, .int _), (2, .int _), (0, .ref _), (1, .int _)]) hx hb dX2_tick_43 hl (by decide) rfl (fun ls hl => ?_)
    refine wloop (σ := Nat × Nat × MS) (fun x => x.1) (fun x H locs ls => x.2.1 + x.1 = 100 ∧ m_tkN x.1 x.2.1 x.2.2 = m_tk1 u ∧ mokT x.2.2 ∧ kI D (mw g K) A s.heap x.2.2 H locs ∧ lv_has ls 5 [(4, .int (nI x.2.1)), (3, .int (nI t)), (2, .int (st.1 13 10)), (0, .ref (g 0)), (1, .int (nI nt))]) ?_ (100, 0, mnow u (u.2.1 + nI 1)) _ _ _ ⟨rfl, rfl, hok, hI, lv_sub hl [0, 1, 2, 3, 4] rfl⟩
    rintro ⟨f2, k, u2⟩ H locs ls ⟨hk2, he2, hok2, hI, hl⟩ ih2
    dsimp only at hk2 he2 hok2 hI hl ih2
    refine lv_iload hx hb dX2_tick_45 (lv_at hl 0 rfl) ?_
    refine lv_bipush (v := nI 100) hx hb dX2_tick_47 (by decide) ?_
    refine lv_icmp_ge (tgt := 98) hx hb dX2_tick_49 (by decide) (fun c49 => ?_) (fun c49 => ?_)
    ·
      rw [nI_leI (by omega) (by omega)] at c49
      obtain rfl : f2 = 0 := by omega
      have he2 : u2 = m_tk1 u := he2
      refine lv_iinc (v := nI (t + 1)) (lv' := [(3, .int _), (4, .int _), (2, .int _), (0, .ref _), (1, .int _)]) hx hb dX2_tick_98 hl (k := 1) rfl (kinc _ 1) (by decide) rfl (fun ls hl => ?_)
      refine lv_goto (tgt := 27) hx hb dX2_tick_101 (by decide) ?_
      exact ih (f, t + 1, u2) _ _ _ (by show f < f + 1; omega) ⟨by show t + 1 + f = _; omega, by rw [← he]; show m_tkL f u2 = m_tkL f (m_tk1 u); rw [he2], hok2, hI, lv_sub hl [0, 2, 3, 4] rfl⟩
    ·
      rw [nI_leI (by omega) (by omega)] at c49
      obtain ⟨f2, rfl⟩ : ∃ f', f2 = f' + 1 := ⟨f2 - 1, by omega⟩
      refine lv_aload_n hx hb dX2_tick_52 rfl (lv_at hl 3 rfl) ?_
      refine m_get F hI 5 (by decide) rfl flX2_17 dX2_tick_53 ?_
      refine lv_iload hx hb dX2_tick_56 (lv_at hl 0 rfl) ?_
      refine m_ald F hI  2 (show k < 100 by omega) rfl dX2_tick_58 ?_
      refine lv_bipush (v := -9) hx hb dX2_tick_59 (by decide) ?_
      refine lv_icmp_eq (tgt := 92) hx hb dX2_tick_61 (by decide) (fun c61 => ?_) (fun c61 => ?_)
      ·
        refine lv_iinc (v := nI (k + 1)) (lv' := [(4, .int _), (3, .int _), (2, .int _), (0, .ref _), (1, .int _)]) hx hb dX2_tick_92 hl (k := 0) rfl (kinc _ 1) (by decide) rfl (fun ls hl => ?_)
        refine lv_goto (tgt := 45) hx hb dX2_tick_95 (by decide) ?_
        exact ih2 (f2, k + 1, u2) _ _ _ (by show f2 < f2 + 1; omega) ⟨by show k + 1 + f2 = _; omega, by rw [← he2]; show _ = m_tkN f2 (k + 1) (m_tkK u2 k); simp [m_tkK, c61], hok2, hI, lv_sub hl [0, 1, 2, 3, 4] rfl⟩
      ·
        refine lv_aload_n hx hb dX2_tick_64 rfl (lv_at hl 3 rfl) ?_
        refine m_get F hI 1 (by decide) rfl flX2_79 dX2_tick_65 ?_
        refine lv_aload_n hx hb dX2_tick_68 rfl (lv_at hl 3 rfl) ?_
        refine m_get F hI 10 (by decide) rfl flX2_32 dX2_tick_69 ?_
        refine lv_iload hx hb dX2_tick_72 (lv_at hl 0 rfl) ?_
        refine m_ald F hI  7 (show k < 100 by omega) rfl dX2_tick_74 ?_
        refine lv_isub hx hb dX2_tick_75 ?_
        refine lv_aload_n hx hb dX2_tick_76 rfl (lv_at hl 3 rfl) ?_
        refine m_get F hI 4 (by decide) rfl flX2_13 dX2_tick_77 ?_
        refine lv_iconst (v := nI 4) hx hb dX2_tick_80 (by decide) ?_
        refine m_ald F hI  1 (show 4 < 6 by omega) rfl dX2_tick_81 ?_
        refine lv_icmp_lt (tgt := 92) hx hb dX2_tick_82 (by decide) (fun c82 => ?_) (fun c82 => ?_)
        ·
          refine lv_iinc (v := nI (k + 1)) (lv' := [(4, .int _), (3, .int _), (2, .int _), (0, .ref _), (1, .int _)]) hx hb dX2_tick_92 hl (k := 0) rfl (kinc _ 1) (by decide) rfl (fun ls hl => ?_)
          refine lv_goto (tgt := 45) hx hb dX2_tick_95 (by decide) ?_
          exact ih2 (f2, k + 1, u2) _ _ _ (by show f2 < f2 + 1; omega) ⟨by show k + 1 + f2 = _; omega, by rw [← he2]; show _ = m_tkN f2 (k + 1) (m_tkK u2 k); simp [m_tkK, c61, c82], hok2, hI, lv_sub hl [0, 1, 2, 3, 4] rfl⟩
        ·
          obtain ⟨sh, z, q1, q2, q3, q4⟩ := hok2.1 k (by omega) c61
          refine lv_aload_n hx hb dX2_tick_85 rfl (lv_at hl 3 rfl) ?_
          refine lv_iload hx hb dX2_tick_86 (lv_at hl 0 rfl) ?_
          refine lv_iconst (v := nI 1) hx hb dX2_tick_88 (by decide) ?_
          refine kcallV (rest := []) F hA hI (mc_decides l _ k sh z true (by omega) q1 q2 q3 q4 hok2.2) kgX2_85 (m_rec F hI) hl.1 rfl rfl (Nat.le_of_ble_eq_true rfl) dX2_tick_89 ⟨Nat.le_of_ble_eq_true rfl, Nat.le_of_ble_eq_true rfl⟩ ⟨Nat.le_of_ble_eq_true rfl, Nat.le_of_ble_eq_true rfl⟩ (fun vq uq H locs hp hI => ?_)
          obtain ⟨rfl, hu⟩ := hp
          rw [hu] at hI
          clear hu
          refine kstk (b := []) rfl ?_
          refine lv_iinc (v := nI (k + 1)) (lv' := [(4, .int _), (3, .int _), (2, .int _), (0, .ref _), (1, .int _)]) hx hb dX2_tick_92 hl (k := 0) rfl (kinc _ 1) (by decide) rfl (fun ls hl => ?_)
          refine lv_goto (tgt := 45) hx hb dX2_tick_95 (by decide) ?_
          exact ih2 (f2, k + 1, m_dec u2 k true) _ _ _ (by show f2 < f2 + 1; omega) ⟨by show k + 1 + f2 = _; omega, by rw [← he2]; show _ = m_tkN f2 (k + 1) (m_tkK u2 k); simp [m_tkK, c61, c82], mokT_dec k true hok2, hI, lv_sub hl [0, 1, 2, 3, 4] rfl⟩
end MC4
