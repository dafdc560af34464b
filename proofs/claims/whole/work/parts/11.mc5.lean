/-! the reference: what it answers -/
def m_wval (st : MS) (n : Nat) : Nat → Int32
  | 0 => st.1 2 n
  | 1 => st.1 3 n
  | 2 => st.1 4 n
  | 3 => st.1 5 n
  | 4 => st.1 6 n
  | _ => st.2.1 - st.1 7 n
def m_waits (st : MS) (n w : Nat) : Int32 := if st.1 2 n = -9 then -9 else m_wval st n w
def m_rem (st : MS) (n : Nat) : Int32 := if m_known st n = true then (if m_keptAt st n = -9 then nI 0 else nI 1) else -9
def m_shift : Nat → Nat → MS → MS
  | 0, _, st => st
  | f + 1, k, st => m_shift f (k + 1) (mcp st 10 k 10 (k + 8))
def m_tk8 (st : MS) (i n : Nat) : MS := if st.1 8 n = st.1 10 (8 * i + 7) then mset st 8 n (nI 0) else st
def m_takeA (st : MS) (sh : Nat) (w : Int32) : MS := madd (mset st 11 (7 * sh + 1) (st.1 11 (7 * sh + 1) - w)) 11 (7 * sh + 2) w
def m_take (st : MS) (i n sh : Nat) : MS := mkm (m_shift (8 * st.2.2.2 - 8 - 8 * i) (8 * i) (m_tk8 (m_takeA st sh (st.1 10 (8 * i + 4))) i n)) (st.2.2.2 - 1)
def sumN (f : Nat → Nat) : Nat → Nat
  | 0 => 0
  | n + 1 => sumN f n + f n
def bndL (sN : Nat → Nat) (T a b : Nat) : Nat → Nat → Nat
  | 0, j => j
  | f + 1, j => if sumN sN (j + 1) * b < a * T then bndL sN T a b f (j + 1) else j
def bnd (sN : Nat → Nat) (T a b : Nat) : Nat := bndL sN T a b 13 0
def bval (j w : Nat) : Int32 := if w = 1 then nI 1 <<< (nI j &&& 31) else if j = 0 then nI 0 else nI 1 <<< ((nI j - nI 1) &&& 31)
theorem sumN_le (f : Nat → Nat) {a b : Nat} (h : a ≤ b) : sumN f a ≤ sumN f b := by
  induction b with
  | zero => rw [show a = 0 by omega]; exact Nat.le_refl _
  | succ b ih =>
    by_cases e : a = b + 1
    · rw [e]; exact Nat.le_refl _
    · have := ih (by omega)
      show sumN f a ≤ sumN f b + f b
      omega
def m_upL (st : MS) : Nat → Nat → Int32 → Int32
  | 0, _, v => v
  | f + 1, k, v => m_upL st f (k + 1) (if st.1 0 k = 0 then v + nI 1 else v + nI 0)
def m_count (st : MS) (w : Nat) : Int32 := if w = 0 then st.2.1 else if w = 1 then m_wm st else if w = 2 then nI st.2.2.2 else if w = 12 then m_upL st 4 0 (nI 0) else st.1 13 w
theorem kmR {x : Int32} {km : Nat} (hk : km ≤ 20) : inR x (nI 0) (nI km - nI 1) = true ↔ ∃ j, j < km ∧ x = nI j := by
  constructor
  · intro h
    by_cases h0 : km = 0
    · exfalso
      subst h0
      simp only [inR, decide_eq_true_eq] at h
      have e1 : (nI 0 - nI 1).toInt = -1 := by decide
      have e2 : (nI 0).toInt = 0 := by decide
      rw [Int32.lt_iff_toInt_lt, Int32.lt_iff_toInt_lt] at h
      omega
    · rw [pk_sub (by omega)] at h
      obtain ⟨j, h1, h2, h3⟩ := inR_nat (by decide) (by omega) h
      exact ⟨j, by omega, h3⟩
  · rintro ⟨j, h1, rfl⟩
    rw [pk_sub (by omega)]
    exact inR_in (by omega) (by omega) (by omega)
section MC5
variable (l : Launch) {D : va_G} {g : Nat → Nat} {K : Nat → ClassId}
theorem mc_tick_bad (st : MS) (x : Int32) (h : inR x (nI 1) (nI 60) = false) : kM l yX2_tick cX2_tick 5 (some .int) 2 50 0 0 D (mty K) (mw g K) [.ref (g 0), .int x] st (fun v u => v = some (.int (-1)) ∧ u = st) := by
  refine kM_intro (by decide) (Nat.le_of_ble_eq_true rfl) ?_
  intro p e s m below meth c A ls F hA hI hl
  obtain ⟨hx, hb, hr, hml, hown, hts, hlk, hK, hnm⟩ := id F
  have hl : lv_has ls 5 [(0, .ref (g 0)), (1, .int x)] := hl
  refine lv_aload_n hx hb dX2_tick_0 rfl (lv_at hl 0 rfl) ?_
  refine lv_iconst (v := nI 0) hx hb dX2_tick_1 (by decide) ?_
  refine m_putTh F hI flX2_53 dX2_tick_2 (fun H locs hI => ?_)
  refine lv_iload_n hx hb dX2_tick_5 rfl (lv_at hl 1 rfl) ?_
  refine lv_iconst (v := nI 1) hx hb dX2_tick_6 (by decide) ?_
  refine lv_bipush (v := nI 60) hx hb dX2_tick_7 (by decide) ?_
  refine kcallS (rest := []) F hA hI (mc_in l _ _ _ _) kgX2_57 hl.1 rfl rfl (Nat.le_of_ble_eq_true rfl) dX2_tick_9 ⟨Nat.le_of_ble_eq_true rfl, Nat.le_of_ble_eq_true rfl⟩ ⟨Nat.le_of_ble_eq_true rfl, Nat.le_of_ble_eq_true rfl⟩ (fun vq uq H locs hp hI => ?_)
  obtain ⟨rfl, hu⟩ := hp
  rw [hu] at hI
  clear hu
  refine kstk (b := .int _ :: []) rfl ?_
  refine lv_if_ne (tgt := 17) hx hb dX2_tick_12 (by decide) (fun c12 => absurd c12 ((fun q => q (bI_z.mpr h)))) (fun c12 => ?_)
  refine lv_iconst (v := -1) hx hb dX2_tick_15 (by decide) ?_
  exact kret_i F hI dX2_tick_16 (⟨rfl, rfl⟩)
theorem mc_waits_bad (st : MS) (x w : Int32) (h : inR x (nI 0) (nI 99) = false ∨ inR w (nI 0) (nI 5) = false) : kM l yX2_waits cX2_waits 3 (some .int) 1 22 0 0 D (mty K) (mw g K) [.ref (g 0), .int x, .int w] st (fun v u => v = some (.int (-1)) ∧ u = st) := by
  refine kM_intro (by decide) (Nat.le_of_ble_eq_true rfl) ?_
  intro p e s m below meth c A ls F hA hI hl
  obtain ⟨hx, hb, hr, hml, hown, hts, hlk, hK, hnm⟩ := id F
  have hl : lv_has ls 3 [(0, .ref (g 0)), (1, .int x), (2, .int w)] := hl
  refine lv_aload_n hx hb dX2_waits_0 rfl (lv_at hl 0 rfl) ?_
  refine lv_iconst (v := nI 0) hx hb dX2_waits_1 (by decide) ?_
  refine m_putTh F hI flX2_53 dX2_waits_2 (fun H locs hI => ?_)
  refine lv_iload_n hx hb dX2_waits_5 rfl (lv_at hl 1 rfl) ?_
  refine lv_iconst (v := nI 0) hx hb dX2_waits_6 (by decide) ?_
  refine lv_bipush (v := nI 99) hx hb dX2_waits_7 (by decide) ?_
  refine kcallS (rest := []) F hA hI (mc_in l _ _ _ _) kgX2_57 hl.1 rfl rfl (Nat.le_of_ble_eq_true rfl) dX2_waits_9 ⟨Nat.le_of_ble_eq_true rfl, Nat.le_of_ble_eq_true rfl⟩ ⟨Nat.le_of_ble_eq_true rfl, Nat.le_of_ble_eq_true rfl⟩ (fun vq uq H locs hp hI => ?_)
  obtain ⟨rfl, hu⟩ := hp
  rw [hu] at hI
  clear hu
  refine kstk (b := .int _ :: []) rfl ?_
  refine lv_if_eq (tgt := 24) hx hb dX2_waits_12 (by decide) (fun c12 => ?_) (fun c12 => ?_)
  ·
    rw [bI_z] at c12
    refine lv_iconst (v := -1) hx hb dX2_waits_24 (by decide) ?_
    exact kret_i F hI dX2_waits_25 (⟨rfl, rfl⟩)
  ·
    rw [bI_z] at c12
    refine lv_iload_n hx hb dX2_waits_15 rfl (lv_at hl 2 rfl) ?_
    refine lv_iconst (v := nI 0) hx hb dX2_waits_16 (by decide) ?_
    refine lv_iconst (v := nI 5) hx hb dX2_waits_17 (by decide) ?_
    refine kcallS (rest := []) F hA hI (mc_in l _ _ _ _) kgX2_57 hl.1 rfl rfl (Nat.le_of_ble_eq_true rfl) dX2_waits_18 ⟨Nat.le_of_ble_eq_true rfl, Nat.le_of_ble_eq_true rfl⟩ ⟨Nat.le_of_ble_eq_true rfl, Nat.le_of_ble_eq_true rfl⟩ (fun vq uq H locs hp hI => ?_)
    obtain ⟨rfl, hu⟩ := hp
    rw [hu] at hI
    clear hu
    refine kstk (b := .int _ :: []) rfl ?_
    refine lv_if_ne (tgt := 26) hx hb dX2_waits_21 (by decide) (fun c21 => absurd c21 ((fun q => q (bI_z.mpr (h.resolve_left c12))))) (fun c21 => ?_)
    refine lv_iconst (v := -1) hx hb dX2_waits_24 (by decide) ?_
    exact kret_i F hI dX2_waits_25 (⟨rfl, rfl⟩)
theorem mc_waits (st : MS) (n w : Nat) (hn : n < 100) (hw : w < 6) : kM l yX2_waits cX2_waits 3 (some .int) 1 22 0 0 D (mty K) (mw g K) [.ref (g 0), .int (nI n), .int (nI w)] st (fun v u => v = some (.int (m_waits st n w)) ∧ u = st) := by
  refine kM_intro (by decide) (Nat.le_of_ble_eq_true rfl) ?_
  intro p e s m below meth c A ls F hA hI hl
  obtain ⟨hx, hb, hr, hml, hown, hts, hlk, hK, hnm⟩ := id F
  have hl : lv_has ls 3 [(0, .ref (g 0)), (1, .int (nI n)), (2, .int (nI w))] := hl
  have g1 : inR (nI n) (nI 0) (nI 99) = true := inR_in (by decide) (by omega) (by omega)
  have g2 : inR (nI w) (nI 0) (nI 5) = true := inR_in (by decide) (by omega) (by omega)
  by_cases hk : st.1 2 n = -9
  · have hl := hl
    refine lv_aload_n hx hb dX2_waits_0 rfl (lv_at hl 0 rfl) ?_
    refine lv_iconst (v := nI 0) hx hb dX2_waits_1 (by decide) ?_
    refine m_putTh F hI flX2_53 dX2_waits_2 (fun H locs hI => ?_)
    refine lv_iload_n hx hb dX2_waits_5 rfl (lv_at hl 1 rfl) ?_
    refine lv_iconst (v := nI 0) hx hb dX2_waits_6 (by decide) ?_
    refine lv_bipush (v := nI 99) hx hb dX2_waits_7 (by decide) ?_
    refine kcallS (rest := []) F hA hI (mc_in l _ _ _ _) kgX2_57 hl.1 rfl rfl (Nat.le_of_ble_eq_true rfl) dX2_waits_9 ⟨Nat.le_of_ble_eq_true rfl, Nat.le_of_ble_eq_true rfl⟩ ⟨Nat.le_of_ble_eq_true rfl, Nat.le_of_ble_eq_true rfl⟩ (fun vq uq H locs hp hI => ?_)
    obtain ⟨rfl, hu⟩ := hp
    rw [hu] at hI
    clear hu
    refine kstk (b := .int _ :: []) rfl ?_
    refine lv_if_eq (tgt := 24) hx hb dX2_waits_12 (by decide) (fun c12 => absurd c12 ((fun q => by rw [bI_z, g1] at q; cases q))) (fun c12 => ?_)
    refine lv_iload_n hx hb dX2_waits_15 rfl (lv_at hl 2 rfl) ?_
    refine lv_iconst (v := nI 0) hx hb dX2_waits_16 (by decide) ?_
    refine lv_iconst (v := nI 5) hx hb dX2_waits_17 (by decide) ?_
    refine kcallS (rest := []) F hA hI (mc_in l _ _ _ _) kgX2_57 hl.1 rfl rfl (Nat.le_of_ble_eq_true rfl) dX2_waits_18 ⟨Nat.le_of_ble_eq_true rfl, Nat.le_of_ble_eq_true rfl⟩ ⟨Nat.le_of_ble_eq_true rfl, Nat.le_of_ble_eq_true rfl⟩ (fun vq uq H locs hp hI => ?_)
    obtain ⟨rfl, hu⟩ := hp
    rw [hu] at hI
    clear hu
    refine kstk (b := .int _ :: []) rfl ?_
    refine lv_if_ne (tgt := 26) hx hb dX2_waits_21 (by decide) (fun c21 => ?_) (fun c21 => absurd c21 ((fun q => by rw [bI_z, g2] at q; cases q)))
    refine lv_aload_n hx hb dX2_waits_26 rfl (lv_at hl 0 rfl) ?_
    refine m_get F hI 5 (by decide) rfl flX2_17 dX2_waits_27 ?_
    refine lv_iload_n hx hb dX2_waits_30 rfl (lv_at hl 1 rfl) ?_
    refine m_ald F hI  2 (show n < 100 by omega) rfl dX2_waits_31 ?_
    refine lv_bipush (v := -9) hx hb dX2_waits_32 (by decide) ?_
    refine lv_icmp_ne (tgt := 40) hx hb dX2_waits_34 (by decide) (fun c34 => absurd c34 ((fun q => q hk))) (fun c34 => ?_)
    refine lv_bipush (v := -9) hx hb dX2_waits_37 (by decide) ?_
    exact kret_i F hI dX2_waits_39 (⟨by simp [m_waits, hk], rfl⟩)
  · rcases (show w = 0 ∨ w = 1 ∨ w = 2 ∨ w = 3 ∨ w = 4 ∨ w = 5 by omega) with rfl | rfl | rfl | rfl | rfl | rfl
    · have hl := hl
      refine lv_aload_n hx hb dX2_waits_0 rfl (lv_at hl 0 rfl) ?_
      refine lv_iconst (v := nI 0) hx hb dX2_waits_1 (by decide) ?_
      refine m_putTh F hI flX2_53 dX2_waits_2 (fun H locs hI => ?_)
      refine lv_iload_n hx hb dX2_waits_5 rfl (lv_at hl 1 rfl) ?_
      refine lv_iconst (v := nI 0) hx hb dX2_waits_6 (by decide) ?_
      refine lv_bipush (v := nI 99) hx hb dX2_waits_7 (by decide) ?_
      refine kcallS (rest := []) F hA hI (mc_in l _ _ _ _) kgX2_57 hl.1 rfl rfl (Nat.le_of_ble_eq_true rfl) dX2_waits_9 ⟨Nat.le_of_ble_eq_true rfl, Nat.le_of_ble_eq_true rfl⟩ ⟨Nat.le_of_ble_eq_true rfl, Nat.le_of_ble_eq_true rfl⟩ (fun vq uq H locs hp hI => ?_)
      obtain ⟨rfl, hu⟩ := hp
      rw [hu] at hI
      clear hu
      refine kstk (b := .int _ :: []) rfl ?_
      refine lv_if_eq (tgt := 24) hx hb dX2_waits_12 (by decide) (fun c12 => absurd c12 ((fun q => by rw [bI_z, g1] at q; cases q))) (fun c12 => ?_)
      refine lv_iload_n hx hb dX2_waits_15 rfl (lv_at hl 2 rfl) ?_
      refine lv_iconst (v := nI 0) hx hb dX2_waits_16 (by decide) ?_
      refine lv_iconst (v := nI 5) hx hb dX2_waits_17 (by decide) ?_
      refine kcallS (rest := []) F hA hI (mc_in l _ _ _ _) kgX2_57 hl.1 rfl rfl (Nat.le_of_ble_eq_true rfl) dX2_waits_18 ⟨Nat.le_of_ble_eq_true rfl, Nat.le_of_ble_eq_true rfl⟩ ⟨Nat.le_of_ble_eq_true rfl, Nat.le_of_ble_eq_true rfl⟩ (fun vq uq H locs hp hI => ?_)
      obtain ⟨rfl, hu⟩ := hp
      rw [hu] at hI
      clear hu
      refine kstk (b := .int _ :: []) rfl ?_
      refine lv_if_ne (tgt := 26) hx hb dX2_waits_21 (by decide) (fun c21 => ?_) (fun c21 => absurd c21 ((fun q => by rw [bI_z, g2] at q; cases q)))
      refine lv_aload_n hx hb dX2_waits_26 rfl (lv_at hl 0 rfl) ?_
      refine m_get F hI 5 (by decide) rfl flX2_17 dX2_waits_27 ?_
      refine lv_iload_n hx hb dX2_waits_30 rfl (lv_at hl 1 rfl) ?_
      refine m_ald F hI  2 (show n < 100 by omega) rfl dX2_waits_31 ?_
      refine lv_bipush (v := -9) hx hb dX2_waits_32 (by decide) ?_
      refine lv_icmp_ne (tgt := 40) hx hb dX2_waits_34 (by decide) (fun c34 => ?_) (fun c34 => absurd c34 (hk))
      refine lv_iload_n hx hb dX2_waits_40 rfl (lv_at hl 2 rfl) ?_
      refine lv_tableIn (off := 35) (tgt := 76) hx hb dX2_waits_41 (by decide) (by decide) (by decide) (by decide) ?_
      refine lv_aload_n hx hb dX2_waits_76 rfl (lv_at hl 0 rfl) ?_
      refine m_get F hI 5 (by decide) rfl flX2_17 dX2_waits_77 ?_
      refine lv_iload_n hx hb dX2_waits_80 rfl (lv_at hl 1 rfl) ?_
      refine m_ald F hI  2 (show n < 100 by omega) rfl dX2_waits_81 ?_
      exact kret_i F hI dX2_waits_82 (⟨by simp [m_waits, hk, m_wval], rfl⟩)
    · have hl := hl
      refine lv_aload_n hx hb dX2_waits_0 rfl (lv_at hl 0 rfl) ?_
      refine lv_iconst (v := nI 0) hx hb dX2_waits_1 (by decide) ?_
      refine m_putTh F hI flX2_53 dX2_waits_2 (fun H locs hI => ?_)
      refine lv_iload_n hx hb dX2_waits_5 rfl (lv_at hl 1 rfl) ?_
      refine lv_iconst (v := nI 0) hx hb dX2_waits_6 (by decide) ?_
      refine lv_bipush (v := nI 99) hx hb dX2_waits_7 (by decide) ?_
      refine kcallS (rest := []) F hA hI (mc_in l _ _ _ _) kgX2_57 hl.1 rfl rfl (Nat.le_of_ble_eq_true rfl) dX2_waits_9 ⟨Nat.le_of_ble_eq_true rfl, Nat.le_of_ble_eq_true rfl⟩ ⟨Nat.le_of_ble_eq_true rfl, Nat.le_of_ble_eq_true rfl⟩ (fun vq uq H locs hp hI => ?_)
      obtain ⟨rfl, hu⟩ := hp
      rw [hu] at hI
      clear hu
      refine kstk (b := .int _ :: []) rfl ?_
      refine lv_if_eq (tgt := 24) hx hb dX2_waits_12 (by decide) (fun c12 => absurd c12 ((fun q => by rw [bI_z, g1] at q; cases q))) (fun c12 => ?_)
      refine lv_iload_n hx hb dX2_waits_15 rfl (lv_at hl 2 rfl) ?_
      refine lv_iconst (v := nI 0) hx hb dX2_waits_16 (by decide) ?_
      refine lv_iconst (v := nI 5) hx hb dX2_waits_17 (by decide) ?_
      refine kcallS (rest := []) F hA hI (mc_in l _ _ _ _) kgX2_57 hl.1 rfl rfl (Nat.le_of_ble_eq_true rfl) dX2_waits_18 ⟨Nat.le_of_ble_eq_true rfl, Nat.le_of_ble_eq_true rfl⟩ ⟨Nat.le_of_ble_eq_true rfl, Nat.le_of_ble_eq_true rfl⟩ (fun vq uq H locs hp hI => ?_)
      obtain ⟨rfl, hu⟩ := hp
      rw [hu] at hI
      clear hu
      refine kstk (b := .int _ :: []) rfl ?_
      refine lv_if_ne (tgt := 26) hx hb dX2_waits_21 (by decide) (fun c21 => ?_) (fun c21 => absurd c21 ((fun q => by rw [bI_z, g2] at q; cases q)))
      refine lv_aload_n hx hb dX2_waits_26 rfl (lv_at hl 0 rfl) ?_
      refine m_get F hI 5 (by decide) rfl flX2_17 dX2_waits_27 ?_
      refine lv_iload_n hx hb dX2_waits_30 rfl (lv_at hl 1 rfl) ?_
      refine m_ald F hI  2 (show n < 100 by omega) rfl dX2_waits_31 ?_
      refine lv_bipush (v := -9) hx hb dX2_waits_32 (by decide) ?_
      refine lv_icmp_ne (tgt := 40) hx hb dX2_waits_34 (by decide) (fun c34 => ?_) (fun c34 => absurd c34 (hk))
      refine lv_iload_n hx hb dX2_waits_40 rfl (lv_at hl 2 rfl) ?_
      refine lv_tableIn (off := 42) (tgt := 83) hx hb dX2_waits_41 (by decide) (by decide) (by decide) (by decide) ?_
      refine lv_aload_n hx hb dX2_waits_83 rfl (lv_at hl 0 rfl) ?_
      refine m_get F hI 6 (by decide) rfl flX2_20 dX2_waits_84 ?_
      refine lv_iload_n hx hb dX2_waits_87 rfl (lv_at hl 1 rfl) ?_
      refine m_ald F hI  3 (show n < 100 by omega) rfl dX2_waits_88 ?_
      exact kret_i F hI dX2_waits_89 (⟨by simp [m_waits, hk, m_wval], rfl⟩)
    · have hl := hl
      refine lv_aload_n hx hb dX2_waits_0 rfl (lv_at hl 0 rfl) ?_
      refine lv_iconst (v := nI 0) hx hb dX2_waits_1 (by decide) ?_
      refine m_putTh F hI flX2_53 dX2_waits_2 (fun H locs hI => ?_)
      refine lv_iload_n hx hb dX2_waits_5 rfl (lv_at hl 1 rfl) ?_
      refine lv_iconst (v := nI 0) hx hb dX2_waits_6 (by decide) ?_
      refine lv_bipush (v := nI 99) hx hb dX2_waits_7 (by decide) ?_
      refine kcallS (rest := []) F hA hI (mc_in l _ _ _ _) kgX2_57 hl.1 rfl rfl (Nat.le_of_ble_eq_true rfl) dX2_waits_9 ⟨Nat.le_of_ble_eq_true rfl, Nat.le_of_ble_eq_true rfl⟩ ⟨Nat.le_of_ble_eq_true rfl, Nat.le_of_ble_eq_true rfl⟩ (fun vq uq H locs hp hI => ?_)
      obtain ⟨rfl, hu⟩ := hp
      rw [hu] at hI
      clear hu
      refine kstk (b := .int _ :: []) rfl ?_
      refine lv_if_eq (tgt := 24) hx hb dX2_waits_12 (by decide) (fun c12 => absurd c12 ((fun q => by rw [bI_z, g1] at q; cases q))) (fun c12 => ?_)
      refine lv_iload_n hx hb dX2_waits_15 rfl (lv_at hl 2 rfl) ?_
      refine lv_iconst (v := nI 0) hx hb dX2_waits_16 (by decide) ?_
      refine lv_iconst (v := nI 5) hx hb dX2_waits_17 (by decide) ?_
      refine kcallS (rest := []) F hA hI (mc_in l _ _ _ _) kgX2_57 hl.1 rfl rfl (Nat.le_of_ble_eq_true rfl) dX2_waits_18 ⟨Nat.le_of_ble_eq_true rfl, Nat.le_of_ble_eq_true rfl⟩ ⟨Nat.le_of_ble_eq_true rfl, Nat.le_of_ble_eq_true rfl⟩ (fun vq uq H locs hp hI => ?_)
      obtain ⟨rfl, hu⟩ := hp
      rw [hu] at hI
      clear hu
      refine kstk (b := .int _ :: []) rfl ?_
      refine lv_if_ne (tgt := 26) hx hb dX2_waits_21 (by decide) (fun c21 => ?_) (fun c21 => absurd c21 ((fun q => by rw [bI_z, g2] at q; cases q)))
      refine lv_aload_n hx hb dX2_waits_26 rfl (lv_at hl 0 rfl) ?_
      refine m_get F hI 5 (by decide) rfl flX2_17 dX2_waits_27 ?_
      refine lv_iload_n hx hb dX2_waits_30 rfl (lv_at hl 1 rfl) ?_
      refine m_ald F hI  2 (show n < 100 by omega) rfl dX2_waits_31 ?_
      refine lv_bipush (v := -9) hx hb dX2_waits_32 (by decide) ?_
      refine lv_icmp_ne (tgt := 40) hx hb dX2_waits_34 (by decide) (fun c34 => ?_) (fun c34 => absurd c34 (hk))
      refine lv_iload_n hx hb dX2_waits_40 rfl (lv_at hl 2 rfl) ?_
      refine lv_tableIn (off := 49) (tgt := 90) hx hb dX2_waits_41 (by decide) (by decide) (by decide) (by decide) ?_
      refine lv_aload_n hx hb dX2_waits_90 rfl (lv_at hl 0 rfl) ?_
      refine m_get F hI 7 (by decide) rfl flX2_23 dX2_waits_91 ?_
      refine lv_iload_n hx hb dX2_waits_94 rfl (lv_at hl 1 rfl) ?_
      refine m_ald F hI  4 (show n < 100 by omega) rfl dX2_waits_95 ?_
      exact kret_i F hI dX2_waits_96 (⟨by simp [m_waits, hk, m_wval], rfl⟩)
    · have hl := hl
      refine lv_aload_n hx hb dX2_waits_0 rfl (lv_at hl 0 rfl) ?_
      refine lv_iconst (v := nI 0) hx hb dX2_waits_1 (by decide) ?_
      refine m_putTh F hI flX2_53 dX2_waits_2 (fun H locs hI => ?_)
      refine lv_iload_n hx hb dX2_waits_5 rfl (lv_at hl 1 rfl) ?_
      refine lv_iconst (v := nI 0) hx hb dX2_waits_6 (by decide) ?_
      refine lv_bipush (v := nI 99) hx hb dX2_waits_7 (by decide) ?_
      refine kcallS (rest := []) F hA hI (mc_in l _ _ _ _) kgX2_57 hl.1 rfl rfl (Nat.le_of_ble_eq_true rfl) dX2_waits_9 ⟨Nat.le_of_ble_eq_true rfl, Nat.le_of_ble_eq_true rfl⟩ ⟨Nat.le_of_ble_eq_true rfl, Nat.le_of_ble_eq_true rfl⟩ (fun vq uq H locs hp hI => ?_)
      obtain ⟨rfl, hu⟩ := hp
      rw [hu] at hI
      clear hu
      refine kstk (b := .int _ :: []) rfl ?_
      refine lv_if_eq (tgt := 24) hx hb dX2_waits_12 (by decide) (fun c12 => absurd c12 ((fun q => by rw [bI_z, g1] at q; cases q))) (fun c12 => ?_)
      refine lv_iload_n hx hb dX2_waits_15 rfl (lv_at hl 2 rfl) ?_
      refine lv_iconst (v := nI 0) hx hb dX2_waits_16 (by decide) ?_
      refine lv_iconst (v := nI 5) hx hb dX2_waits_17 (by decide) ?_
      refine kcallS (rest := []) F hA hI (mc_in l _ _ _ _) kgX2_57 hl.1 rfl rfl (Nat.le_of_ble_eq_true rfl) dX2_waits_18 ⟨Nat.le_of_ble_eq_true rfl, Nat.le_of_ble_eq_true rfl⟩ ⟨Nat.le_of_ble_eq_true rfl, Nat.le_of_ble_eq_true rfl⟩ (fun vq uq H locs hp hI => ?_)
      obtain ⟨rfl, hu⟩ := hp
      rw [hu] at hI
      clear hu
      refine kstk (b := .int _ :: []) rfl ?_
      refine lv_if_ne (tgt := 26) hx hb dX2_waits_21 (by decide) (fun c21 => ?_) (fun c21 => absurd c21 ((fun q => by rw [bI_z, g2] at q; cases q)))
      refine lv_aload_n hx hb dX2_waits_26 rfl (lv_at hl 0 rfl) ?_
      refine m_get F hI 5 (by decide) rfl flX2_17 dX2_waits_27 ?_
      refine lv_iload_n hx hb dX2_waits_30 rfl (lv_at hl 1 rfl) ?_
      refine m_ald F hI  2 (show n < 100 by omega) rfl dX2_waits_31 ?_
      refine lv_bipush (v := -9) hx hb dX2_waits_32 (by decide) ?_
      refine lv_icmp_ne (tgt := 40) hx hb dX2_waits_34 (by decide) (fun c34 => ?_) (fun c34 => absurd c34 (hk))
      refine lv_iload_n hx hb dX2_waits_40 rfl (lv_at hl 2 rfl) ?_
      refine lv_tableIn (off := 56) (tgt := 97) hx hb dX2_waits_41 (by decide) (by decide) (by decide) (by decide) ?_
      refine lv_aload_n hx hb dX2_waits_97 rfl (lv_at hl 0 rfl) ?_
      refine m_get F hI 8 (by decide) rfl flX2_26 dX2_waits_98 ?_
      refine lv_iload_n hx hb dX2_waits_101 rfl (lv_at hl 1 rfl) ?_
      refine m_ald F hI  5 (show n < 100 by omega) rfl dX2_waits_102 ?_
      exact kret_i F hI dX2_waits_103 (⟨by simp [m_waits, hk, m_wval], rfl⟩)
    · have hl := hl
      refine lv_aload_n hx hb dX2_waits_0 rfl (lv_at hl 0 rfl) ?_
      refine lv_iconst (v := nI 0) hx hb dX2_waits_1 (by decide) ?_
      refine m_putTh F hI flX2_53 dX2_waits_2 (fun H locs hI => ?_)
      refine lv_iload_n hx hb dX2_waits_5 rfl (lv_at hl 1 rfl) ?_
      refine lv_iconst (v := nI 0) hx hb dX2_waits_6 (by decide) ?_
      refine lv_bipush (v := nI 99) hx hb dX2_waits_7 (by decide) ?_
      refine kcallS (rest := []) F hA hI (mc_in l _ _ _ _) kgX2_57 hl.1 rfl rfl (Nat.le_of_ble_eq_true rfl) dX2_waits_9 ⟨Nat.le_of_ble_eq_true rfl, Nat.le_of_ble_eq_true rfl⟩ ⟨Nat.le_of_ble_eq_true rfl, Nat.le_of_ble_eq_true rfl⟩ (fun vq uq H locs hp hI => ?_)
      obtain ⟨rfl, hu⟩ := hp
      rw [hu] at hI
      clear hu
      refine kstk (b := .int _ :: []) rfl ?_
      refine lv_if_eq (tgt := 24) hx hb dX2_waits_12 (by decide) (fun c12 => absurd c12 ((fun q => by rw [bI_z, g1] at q; cases q))) (fun c12 => ?_)
      refine lv_iload_n hx hb dX2_waits_15 rfl (lv_at hl 2 rfl) ?_
      refine lv_iconst (v := nI 0) hx hb dX2_waits_16 (by decide) ?_
      refine lv_iconst (v := nI 5) hx hb dX2_waits_17 (by decide) ?_
      refine kcallS (rest := []) F hA hI (mc_in l _ _ _ _) kgX2_57 hl.1 rfl rfl (Nat.le_of_ble_eq_true rfl) dX2_waits_18 ⟨Nat.le_of_ble_eq_true rfl, Nat.le_of_ble_eq_true rfl⟩ ⟨Nat.le_of_ble_eq_true rfl, Nat.le_of_ble_eq_true rfl⟩ (fun vq uq H locs hp hI => ?_)
      obtain ⟨rfl, hu⟩ := hp
      rw [hu] at hI
      clear hu
      refine kstk (b := .int _ :: []) rfl ?_
      refine lv_if_ne (tgt := 26) hx hb dX2_waits_21 (by decide) (fun c21 => ?_) (fun c21 => absurd c21 ((fun q => by rw [bI_z, g2] at q; cases q)))
      refine lv_aload_n hx hb dX2_waits_26 rfl (lv_at hl 0 rfl) ?_
      refine m_get F hI 5 (by decide) rfl flX2_17 dX2_waits_27 ?_
      refine lv_iload_n hx hb dX2_waits_30 rfl (lv_at hl 1 rfl) ?_
      refine m_ald F hI  2 (show n < 100 by omega) rfl dX2_waits_31 ?_
      refine lv_bipush (v := -9) hx hb dX2_waits_32 (by decide) ?_
      refine lv_icmp_ne (tgt := 40) hx hb dX2_waits_34 (by decide) (fun c34 => ?_) (fun c34 => absurd c34 (hk))
      refine lv_iload_n hx hb dX2_waits_40 rfl (lv_at hl 2 rfl) ?_
      refine lv_tableIn (off := 63) (tgt := 104) hx hb dX2_waits_41 (by decide) (by decide) (by decide) (by decide) ?_
      refine lv_aload_n hx hb dX2_waits_104 rfl (lv_at hl 0 rfl) ?_
      refine m_get F hI 9 (by decide) rfl flX2_29 dX2_waits_105 ?_
      refine lv_iload_n hx hb dX2_waits_108 rfl (lv_at hl 1 rfl) ?_
      refine m_ald F hI  6 (show n < 100 by omega) rfl dX2_waits_109 ?_
      exact kret_i F hI dX2_waits_110 (⟨by simp [m_waits, hk, m_wval], rfl⟩)
    · have hl := hl
      refine lv_aload_n hx hb dX2_waits_0 rfl (lv_at hl 0 rfl) ?_
      refine lv_iconst (v := nI 0) hx hb dX2_waits_1 (by decide) ?_
      refine m_putTh F hI flX2_53 dX2_waits_2 (fun H locs hI => ?_)
      refine lv_iload_n hx hb dX2_waits_5 rfl (lv_at hl 1 rfl) ?_
      refine lv_iconst (v := nI 0) hx hb dX2_waits_6 (by decide) ?_
      refine lv_bipush (v := nI 99) hx hb dX2_waits_7 (by decide) ?_
      refine kcallS (rest := []) F hA hI (mc_in l _ _ _ _) kgX2_57 hl.1 rfl rfl (Nat.le_of_ble_eq_true rfl) dX2_waits_9 ⟨Nat.le_of_ble_eq_true rfl, Nat.le_of_ble_eq_true rfl⟩ ⟨Nat.le_of_ble_eq_true rfl, Nat.le_of_ble_eq_true rfl⟩ (fun vq uq H locs hp hI => ?_)
      obtain ⟨rfl, hu⟩ := hp
      rw [hu] at hI
      clear hu
      refine kstk (b := .int _ :: []) rfl ?_
      refine lv_if_eq (tgt := 24) hx hb dX2_waits_12 (by decide) (fun c12 => absurd c12 ((fun q => by rw [bI_z, g1] at q; cases q))) (fun c12 => ?_)
      refine lv_iload_n hx hb dX2_waits_15 rfl (lv_at hl 2 rfl) ?_
      refine lv_iconst (v := nI 0) hx hb dX2_waits_16 (by decide) ?_
      refine lv_iconst (v := nI 5) hx hb dX2_waits_17 (by decide) ?_
      refine kcallS (rest := []) F hA hI (mc_in l _ _ _ _) kgX2_57 hl.1 rfl rfl (Nat.le_of_ble_eq_true rfl) dX2_waits_18 ⟨Nat.le_of_ble_eq_true rfl, Nat.le_of_ble_eq_true rfl⟩ ⟨Nat.le_of_ble_eq_true rfl, Nat.le_of_ble_eq_true rfl⟩ (fun vq uq H locs hp hI => ?_)
      obtain ⟨rfl, hu⟩ := hp
      rw [hu] at hI
      clear hu
      refine kstk (b := .int _ :: []) rfl ?_
      refine lv_if_ne (tgt := 26) hx hb dX2_waits_21 (by decide) (fun c21 => ?_) (fun c21 => absurd c21 ((fun q => by rw [bI_z, g2] at q; cases q)))
      refine lv_aload_n hx hb dX2_waits_26 rfl (lv_at hl 0 rfl) ?_
      refine m_get F hI 5 (by decide) rfl flX2_17 dX2_waits_27 ?_
      refine lv_iload_n hx hb dX2_waits_30 rfl (lv_at hl 1 rfl) ?_
      refine m_ald F hI  2 (show n < 100 by omega) rfl dX2_waits_31 ?_
      refine lv_bipush (v := -9) hx hb dX2_waits_32 (by decide) ?_
      refine lv_icmp_ne (tgt := 40) hx hb dX2_waits_34 (by decide) (fun c34 => ?_) (fun c34 => absurd c34 (hk))
      refine lv_iload_n hx hb dX2_waits_40 rfl (lv_at hl 2 rfl) ?_
      refine lv_tableOut (tgt := 111) hx hb dX2_waits_41 (by decide) (by decide) ?_
      refine lv_aload_n hx hb dX2_waits_111 rfl (lv_at hl 0 rfl) ?_
      refine m_get F hI 1 (by decide) rfl flX2_79 dX2_waits_112 ?_
      refine lv_aload_n hx hb dX2_waits_115 rfl (lv_at hl 0 rfl) ?_
      refine m_get F hI 10 (by decide) rfl flX2_32 dX2_waits_116 ?_
      refine lv_iload_n hx hb dX2_waits_119 rfl (lv_at hl 1 rfl) ?_
      refine m_ald F hI  7 (show n < 100 by omega) rfl dX2_waits_120 ?_
      refine lv_isub hx hb dX2_waits_121 ?_
      exact kret_i F hI dX2_waits_122 (⟨by simp [m_waits, hk, m_wval], rfl⟩)
theorem mc_rem_bad (st : MS) (x : Int32) (h : inR x (nI 0) (nI 99) = false) : kM l yX2_remembered cX2_remembered 2 (some .int) 1 22 0 0 D (mty K) (mw g K) [.ref (g 0), .int x] st (fun v u => v = some (.int (-1)) ∧ u = st) := by
  refine kM_intro (by decide) (Nat.le_of_ble_eq_true rfl) ?_
  intro p e s m below meth c A ls F hA hI hl
  obtain ⟨hx, hb, hr, hml, hown, hts, hlk, hK, hnm⟩ := id F
  have hl : lv_has ls 2 [(0, .ref (g 0)), (1, .int x)] := hl
  refine lv_aload_n hx hb dX2_remembered_0 rfl (lv_at hl 0 rfl) ?_
  refine lv_iconst (v := nI 0) hx hb dX2_remembered_1 (by decide) ?_
  refine m_putTh F hI flX2_53 dX2_remembered_2 (fun H locs hI => ?_)
  refine lv_iload_n hx hb dX2_remembered_5 rfl (lv_at hl 1 rfl) ?_
  refine lv_iconst (v := nI 0) hx hb dX2_remembered_6 (by decide) ?_
  refine lv_bipush (v := nI 99) hx hb dX2_remembered_7 (by decide) ?_
  refine kcallS (rest := []) F hA hI (mc_in l _ _ _ _) kgX2_57 hl.1 rfl rfl (Nat.le_of_ble_eq_true rfl) dX2_remembered_9 ⟨Nat.le_of_ble_eq_true rfl, Nat.le_of_ble_eq_true rfl⟩ ⟨Nat.le_of_ble_eq_true rfl, Nat.le_of_ble_eq_true rfl⟩ (fun vq uq H locs hp hI => ?_)
  obtain ⟨rfl, hu⟩ := hp
  rw [hu] at hI
  clear hu
  refine kstk (b := .int _ :: []) rfl ?_
  refine lv_if_ne (tgt := 17) hx hb dX2_remembered_12 (by decide) (fun c12 => absurd c12 ((fun q => q (bI_z.mpr h)))) (fun c12 => ?_)
  refine lv_iconst (v := -1) hx hb dX2_remembered_15 (by decide) ?_
  exact kret_i F hI dX2_remembered_16 (⟨rfl, rfl⟩)
theorem mc_rem (st : MS) (n : Nat) (hn : n < 100) (hkm : st.2.2.2 ≤ 20) : kM l yX2_remembered cX2_remembered 2 (some .int) 1 22 0 0 D (mty K) (mw g K) [.ref (g 0), .int (nI n)] st (fun v u => v = some (.int (m_rem st n)) ∧ u = st) := by
  refine kM_intro (by decide) (Nat.le_of_ble_eq_true rfl) ?_
  intro p e s m below meth c A ls F hA hI hl
  obtain ⟨hx, hb, hr, hml, hown, hts, hlk, hK, hnm⟩ := id F
  have hl : lv_has ls 2 [(0, .ref (g 0)), (1, .int (nI n))] := hl
  have g1 : inR (nI n) (nI 0) (nI 99) = true := inR_in (by decide) (by omega) (by omega)
  refine lv_aload_n hx hb dX2_remembered_0 rfl (lv_at hl 0 rfl) ?_
  refine lv_iconst (v := nI 0) hx hb dX2_remembered_1 (by decide) ?_
  refine m_putTh F hI flX2_53 dX2_remembered_2 (fun H locs hI => ?_)
  refine lv_iload_n hx hb dX2_remembered_5 rfl (lv_at hl 1 rfl) ?_
  refine lv_iconst (v := nI 0) hx hb dX2_remembered_6 (by decide) ?_
  refine lv_bipush (v := nI 99) hx hb dX2_remembered_7 (by decide) ?_
  refine kcallS (rest := []) F hA hI (mc_in l _ _ _ _) kgX2_57 hl.1 rfl rfl (Nat.le_of_ble_eq_true rfl) dX2_remembered_9 ⟨Nat.le_of_ble_eq_true rfl, Nat.le_of_ble_eq_true rfl⟩ ⟨Nat.le_of_ble_eq_true rfl, Nat.le_of_ble_eq_true rfl⟩ (fun vq uq H locs hp hI => ?_)
  obtain ⟨rfl, hu⟩ := hp
  rw [hu] at hI
  clear hu
  refine kstk (b := .int _ :: []) rfl ?_
  refine lv_if_ne (tgt := 17) hx hb dX2_remembered_12 (by decide) (fun c12 => ?_) (fun c12 => absurd c12 ((fun q => by rw [bI_z, g1] at q; cases q)))
  refine lv_aload_n hx hb dX2_remembered_17 rfl (lv_at hl 0 rfl) ?_
  refine lv_iload_n hx hb dX2_remembered_18 rfl (lv_at hl 1 rfl) ?_
  refine kcallV (rest := []) F hA hI (mc_known l _ n hn) kgX2_93 (m_rec F hI) hl.1 rfl rfl (Nat.le_of_ble_eq_true rfl) dX2_remembered_19 ⟨Nat.le_of_ble_eq_true rfl, Nat.le_of_ble_eq_true rfl⟩ ⟨Nat.le_of_ble_eq_true rfl, Nat.le_of_ble_eq_true rfl⟩ (fun vq uq H locs hp hI => ?_)
  obtain ⟨rfl, hu⟩ := hp
  rw [hu] at hI
  clear hu
  refine kstk (b := .int _ :: []) rfl ?_
  refine lv_if_ne (tgt := 30) hx hb dX2_remembered_22 (by decide) (fun c22 => ?_) (fun c22 => ?_)
  ·
    simp only [bI_z] at c22
    refine lv_aload_n hx hb dX2_remembered_30 rfl (lv_at hl 0 rfl) ?_
    refine lv_iload_n hx hb dX2_remembered_31 rfl (lv_at hl 1 rfl) ?_
    refine kcallV (rest := []) F hA hI (mc_keptAt l _ n hn hkm) kgX2_97 (m_rec F hI) hl.1 rfl rfl (Nat.le_of_ble_eq_true rfl) dX2_remembered_32 ⟨Nat.le_of_ble_eq_true rfl, Nat.le_of_ble_eq_true rfl⟩ ⟨Nat.le_of_ble_eq_true rfl, Nat.le_of_ble_eq_true rfl⟩ (fun vq uq H locs hp hI => ?_)
    obtain ⟨rfl, hu⟩ := hp
    rw [hu] at hI
    clear hu
    refine kstk (b := .int _ :: []) rfl ?_
    refine lv_bipush (v := -9) hx hb dX2_remembered_35 (by decide) ?_
    refine lv_icmp_ne (tgt := 44) hx hb dX2_remembered_37 (by decide) (fun c37 => ?_) (fun c37 => ?_)
    ·
      refine lv_iconst (v := nI 1) hx hb dX2_remembered_44 (by decide) ?_
      exact kret_i F hI dX2_remembered_45 (⟨by simp [m_rem, c22, c37], rfl⟩)
    ·
      refine lv_iconst (v := nI 0) hx hb dX2_remembered_40 (by decide) ?_
      refine lv_goto (tgt := 45) hx hb dX2_remembered_41 (by decide) ?_
      exact kret_i F hI dX2_remembered_45 (⟨by simp [m_rem, c22, c37], rfl⟩)
  ·
    simp only [bI_z] at c22
    refine lv_bipush (v := -9) hx hb dX2_remembered_25 (by decide) ?_
    refine lv_goto (tgt := 45) hx hb dX2_remembered_27 (by decide) ?_
    exact kret_i F hI dX2_remembered_45 (⟨by simp [m_rem, c22], rfl⟩)
theorem mc_kept_bad (st : MS) (x w : Int32) (h : inR x (nI 0) (nI st.2.2.2 - nI 1) = false ∨ inR w (nI 0) (nI 6) = false) : kM l yX2_kept cX2_kept 3 (some .int) 1 22 0 0 D (mty K) (mw g K) [.ref (g 0), .int x, .int w] st (fun v u => v = some (.int (-1)) ∧ u = st) := by
  refine kM_intro (by decide) (Nat.le_of_ble_eq_true rfl) ?_
  intro p e s m below meth c A ls F hA hI hl
  obtain ⟨hx, hb, hr, hml, hown, hts, hlk, hK, hnm⟩ := id F
  have hl : lv_has ls 3 [(0, .ref (g 0)), (1, .int x), (2, .int w)] := hl
  refine lv_aload_n hx hb dX2_kept_0 rfl (lv_at hl 0 rfl) ?_
  refine lv_iconst (v := nI 0) hx hb dX2_kept_1 (by decide) ?_
  refine m_putTh F hI flX2_53 dX2_kept_2 (fun H locs hI => ?_)
  refine lv_iload_n hx hb dX2_kept_5 rfl (lv_at hl 1 rfl) ?_
  refine lv_iconst (v := nI 0) hx hb dX2_kept_6 (by decide) ?_
  refine lv_aload_n hx hb dX2_kept_7 rfl (lv_at hl 0 rfl) ?_
  refine m_get F hI 14 (by decide) rfl flX2_82 dX2_kept_8 ?_
  refine ktop (y := nI (st.2.2.2)) rfl ?_
  refine lv_iconst (v := nI 1) hx hb dX2_kept_11 (by decide) ?_
  refine lv_isub hx hb dX2_kept_12 ?_
  refine kcallS (rest := []) F hA hI (mc_in l _ _ _ _) kgX2_57 hl.1 rfl rfl (Nat.le_of_ble_eq_true rfl) dX2_kept_13 ⟨Nat.le_of_ble_eq_true rfl, Nat.le_of_ble_eq_true rfl⟩ ⟨Nat.le_of_ble_eq_true rfl, Nat.le_of_ble_eq_true rfl⟩ (fun vq uq H locs hp hI => ?_)
  obtain ⟨rfl, hu⟩ := hp
  rw [hu] at hI
  clear hu
  refine kstk (b := .int _ :: []) rfl ?_
  refine lv_if_eq (tgt := 43) hx hb dX2_kept_16 (by decide) (fun c16 => ?_) (fun c16 => ?_)
  ·
    rw [bI_z] at c16
    refine lv_iconst (v := -1) hx hb dX2_kept_43 (by decide) ?_
    exact kret_i F hI dX2_kept_44 (⟨rfl, rfl⟩)
  ·
    rw [bI_z] at c16
    refine lv_iload_n hx hb dX2_kept_19 rfl (lv_at hl 2 rfl) ?_
    refine lv_iconst (v := nI 0) hx hb dX2_kept_20 (by decide) ?_
    refine lv_bipush (v := nI 6) hx hb dX2_kept_21 (by decide) ?_
    refine kcallS (rest := []) F hA hI (mc_in l _ _ _ _) kgX2_57 hl.1 rfl rfl (Nat.le_of_ble_eq_true rfl) dX2_kept_23 ⟨Nat.le_of_ble_eq_true rfl, Nat.le_of_ble_eq_true rfl⟩ ⟨Nat.le_of_ble_eq_true rfl, Nat.le_of_ble_eq_true rfl⟩ (fun vq uq H locs hp hI => ?_)
    obtain ⟨rfl, hu⟩ := hp
    rw [hu] at hI
    clear hu
    refine kstk (b := .int _ :: []) rfl ?_
    refine lv_if_eq (tgt := 43) hx hb dX2_kept_26 (by decide) (fun c26 => ?_) (fun c26 => absurd c26 ((fun q => q (bI_z.mpr (h.resolve_left c16)))))
    refine lv_iconst (v := -1) hx hb dX2_kept_43 (by decide) ?_
    exact kret_i F hI dX2_kept_44 (⟨rfl, rfl⟩)
theorem mc_kept (st : MS) (i w : Nat) (hi : i < st.2.2.2) (hkm : st.2.2.2 ≤ 20) (hw : w < 7) : kM l yX2_kept cX2_kept 3 (some .int) 1 22 0 0 D (mty K) (mw g K) [.ref (g 0), .int (nI i), .int (nI w)] st (fun v u => v = some (.int (st.1 10 (8 * i + w))) ∧ u = st) := by
  refine kM_intro (by decide) (Nat.le_of_ble_eq_true rfl) ?_
  intro p e s m below meth c A ls F hA hI hl
  obtain ⟨hx, hb, hr, hml, hown, hts, hlk, hK, hnm⟩ := id F
  have hl : lv_has ls 3 [(0, .ref (g 0)), (1, .int (nI i)), (2, .int (nI w))] := hl
  have g1 : inR (nI i) (nI 0) (nI st.2.2.2 - nI 1) = true := (kmR hkm).mpr ⟨i, hi, rfl⟩
  have g2 : inR (nI w) (nI 0) (nI 6) = true := inR_in (by decide) (by omega) (by omega)
  refine lv_aload_n hx hb dX2_kept_0 rfl (lv_at hl 0 rfl) ?_
  refine lv_iconst (v := nI 0) hx hb dX2_kept_1 (by decide) ?_
  refine m_putTh F hI flX2_53 dX2_kept_2 (fun H locs hI => ?_)
  refine lv_iload_n hx hb dX2_kept_5 rfl (lv_at hl 1 rfl) ?_
  refine lv_iconst (v := nI 0) hx hb dX2_kept_6 (by decide) ?_
  refine lv_aload_n hx hb dX2_kept_7 rfl (lv_at hl 0 rfl) ?_
  refine m_get F hI 14 (by decide) rfl flX2_82 dX2_kept_8 ?_
  refine ktop (y := nI (st.2.2.2)) rfl ?_
  refine lv_iconst (v := nI 1) hx hb dX2_kept_11 (by decide) ?_
  refine lv_isub hx hb dX2_kept_12 ?_
  refine kcallS (rest := []) F hA hI (mc_in l _ _ _ _) kgX2_57 hl.1 rfl rfl (Nat.le_of_ble_eq_true rfl) dX2_kept_13 ⟨Nat.le_of_ble_eq_true rfl, Nat.le_of_ble_eq_true rfl⟩ ⟨Nat.le_of_ble_eq_true rfl, Nat.le_of_ble_eq_true rfl⟩ (fun vq uq H locs hp hI => ?_)
  obtain ⟨rfl, hu⟩ := hp
  rw [hu] at hI
  clear hu
  refine kstk (b := .int _ :: []) rfl ?_
  refine lv_if_eq (tgt := 43) hx hb dX2_kept_16 (by decide) (fun c16 => absurd c16 ((fun q => by rw [bI_z, g1] at q; cases q))) (fun c16 => ?_)
  refine lv_iload_n hx hb dX2_kept_19 rfl (lv_at hl 2 rfl) ?_
  refine lv_iconst (v := nI 0) hx hb dX2_kept_20 (by decide) ?_
  refine lv_bipush (v := nI 6) hx hb dX2_kept_21 (by decide) ?_
  refine kcallS (rest := []) F hA hI (mc_in l _ _ _ _) kgX2_57 hl.1 rfl rfl (Nat.le_of_ble_eq_true rfl) dX2_kept_23 ⟨Nat.le_of_ble_eq_true rfl, Nat.le_of_ble_eq_true rfl⟩ ⟨Nat.le_of_ble_eq_true rfl, Nat.le_of_ble_eq_true rfl⟩ (fun vq uq H locs hp hI => ?_)
  obtain ⟨rfl, hu⟩ := hp
  rw [hu] at hI
  clear hu
  refine kstk (b := .int _ :: []) rfl ?_
  refine lv_if_eq (tgt := 43) hx hb dX2_kept_26 (by decide) (fun c26 => absurd c26 ((fun q => by rw [bI_z, g2] at q; cases q))) (fun c26 => ?_)
  refine lv_aload_n hx hb dX2_kept_29 rfl (lv_at hl 0 rfl) ?_
  refine m_get F hI 13 (by decide) rfl flX2_41 dX2_kept_30 ?_
  refine lv_bipush (v := nI 8) hx hb dX2_kept_33 (by decide) ?_
  refine lv_iload_n hx hb dX2_kept_35 rfl (lv_at hl 1 rfl) ?_
  refine lv_imul hx hb dX2_kept_36 ?_
  refine ktop (y := nI (8 * i)) (pk_mul _ _) ?_
  refine lv_iload_n hx hb dX2_kept_37 rfl (lv_at hl 2 rfl) ?_
  refine lv_iadd hx hb dX2_kept_38 ?_
  refine ktop (y := nI ((8 * i) + w)) (nI_add _ _) ?_
  refine m_ald F hI  10 (show ((8 * i) + w) < 160 by omega) rfl dX2_kept_39 ?_
  refine lv_goto (tgt := 44) hx hb dX2_kept_40 (by decide) ?_
  exact kret_i F hI dX2_kept_44 (⟨rfl, rfl⟩)
theorem mc_take_bad (st : MS) (x : Int32) (h : inR x (nI 0) (nI st.2.2.2 - nI 1) = false) : kM l yX2_take cX2_take 6 (some .int) 1 22 0 0 D (mty K) (mw g K) [.ref (g 0), .int x] st (fun v u => v = some (.int (-1)) ∧ u = st) := by
  refine kM_intro (by decide) (Nat.le_of_ble_eq_true rfl) ?_
  intro p e s m below meth c A ls F hA hI hl
  obtain ⟨hx, hb, hr, hml, hown, hts, hlk, hK, hnm⟩ := id F
  have hl : lv_has ls 6 [(0, .ref (g 0)), (1, .int x)] := hl
  refine lv_aload_n hx hb dX2_take_0 rfl (lv_at hl 0 rfl) ?_
  refine lv_iconst (v := nI 0) hx hb dX2_take_1 (by decide) ?_
  refine m_putTh F hI flX2_53 dX2_take_2 (fun H locs hI => ?_)
  refine lv_iload_n hx hb dX2_take_5 rfl (lv_at hl 1 rfl) ?_
  refine lv_iconst (v := nI 0) hx hb dX2_take_6 (by decide) ?_
  refine lv_aload_n hx hb dX2_take_7 rfl (lv_at hl 0 rfl) ?_
  refine m_get F hI 14 (by decide) rfl flX2_82 dX2_take_8 ?_
  refine ktop (y := nI (st.2.2.2)) rfl ?_
  refine lv_iconst (v := nI 1) hx hb dX2_take_11 (by decide) ?_
  refine lv_isub hx hb dX2_take_12 ?_
  refine kcallS (rest := []) F hA hI (mc_in l _ _ _ _) kgX2_57 hl.1 rfl rfl (Nat.le_of_ble_eq_true rfl) dX2_take_13 ⟨Nat.le_of_ble_eq_true rfl, Nat.le_of_ble_eq_true rfl⟩ ⟨Nat.le_of_ble_eq_true rfl, Nat.le_of_ble_eq_true rfl⟩ (fun vq uq H locs hp hI => ?_)
  obtain ⟨rfl, hu⟩ := hp
  rw [hu] at hI
  clear hu
  refine kstk (b := .int _ :: []) rfl ?_
  refine lv_if_ne (tgt := 21) hx hb dX2_take_16 (by decide) (fun c16 => absurd c16 ((fun q => q (bI_z.mpr h)))) (fun c16 => ?_)
  refine lv_iconst (v := -1) hx hb dX2_take_19 (by decide) ?_
  exact kret_i F hI dX2_take_20 (⟨rfl, rfl⟩)
theorem mc_take (st : MS) (i n sh : Nat) (hi : i < st.2.2.2) (hkm : st.2.2.2 ≤ 20) (hn : n < 100) (hs : sh < 5) (h0 : st.1 10 (8 * i) = nI n) (h2 : st.1 10 (8 * i + 2) = nI sh) : kM l yX2_take cX2_take 6 (some .int) 1 22 0 0 D (mty K) (mw g K) [.ref (g 0), .int (nI i)] st (fun v u => v = some (.int (nI n)) ∧ u = m_take st i n sh) := by
  refine kM_intro (by decide) (Nat.le_of_ble_eq_true rfl) ?_
  intro p e s m below meth c A ls F hA hI hl
  obtain ⟨hx, hb, hr, hml, hown, hts, hlk, hK, hnm⟩ := id F
  have hl : lv_has ls 6 [(0, .ref (g 0)), (1, .int (nI i))] := hl
  have g1 : inR (nI i) (nI 0) (nI st.2.2.2 - nI 1) = true := (kmR hkm).mpr ⟨i, hi, rfl⟩
  have h116 : ∀ (u : MS) (H : Heap) (locs : List Loc) (ls : Array Slot), kI D (mw g K) A s.heap u H locs → u = m_tk8 (m_takeA st sh (st.1 10 (8 * i + 4))) i n → lv_has ls 6 [(2, .int (nI n)), (0, .ref (g 0)), (1, .int (nI i))] → W p l e { frames := 1, cells := 0, slots := 0, locals := 22 } s m #[.ref (g 0), .int (nI i)] below meth c H locs 0 0 (MQ below (kQ D (mty K) (mw g K) (fun v u => v = some (.int (nI n)) ∧ u = m_take st i n sh) A) #[.ref (g 0), .int (nI i)] s 0 0 A) (F0 m 116 ls []) := by
    intro u H locs ls hI hu hl
    have huk : u.2.2.2 = st.2.2.2 := by rw [hu]; unfold m_tk8; split <;> rfl
    refine lv_bipush (v := nI 8) hx hb dX2_take_116 (by decide) ?_
    refine lv_iload_n hx hb dX2_take_118 rfl (lv_at hl 2 rfl) ?_
    refine lv_imul hx hb dX2_take_119 ?_
    refine ktop (y := nI (8 * i)) (pk_mul _ _) ?_
    refine lv_istore (lv' := [(5, .int _), (2, .int _), (0, .ref _), (1, .int _)]) hx hb dX2_take_120 hl (by decide) rfl (fun ls hl => ?_)
    refine wloop (σ := Nat × Nat × MS) (fun x => x.1) (fun x H locs ls => x.2.1 + x.1 = 8 * st.2.2.2 - 8 ∧ 8 * i ≤ x.2.1 ∧ x.2.2.2.2.2 = st.2.2.2 ∧ mkm (m_shift x.1 x.2.1 x.2.2) (st.2.2.2 - 1) = m_take st i n sh ∧ kI D (mw g K) A s.heap x.2.2 H locs ∧ lv_has ls 6 [(5, .int (nI x.2.1)), (2, .int (nI n)), (0, .ref (g 0)), (1, .int (nI i))]) ?_ (8 * st.2.2.2 - 8 - 8 * i, 8 * i, u) _ _ _ ⟨by show 8 * i + (8 * st.2.2.2 - 8 - 8 * i) = _; omega, Nat.le_refl _, huk, by rw [m_take, ← hu], hI, lv_sub hl [0, 1, 2, 3] rfl⟩
    rintro ⟨f, k, u2⟩ H locs ls ⟨hk, hk2, huk2, he, hI, hl⟩ ih
    dsimp only at hk hk2 huk2 he hI hl ih
    refine lv_iload hx hb dX2_take_122 (lv_at hl 0 rfl) ?_
    refine lv_bipush (v := nI 8) hx hb dX2_take_124 (by decide) ?_
    refine lv_aload_n hx hb dX2_take_126 rfl (lv_at hl 2 rfl) ?_
    refine m_get F hI 14 (by decide) rfl flX2_82 dX2_take_127 ?_
    refine ktop (y := nI (u2.2.2.2)) rfl ?_
    refine ktop (y := nI (st.2.2.2)) (by rw [huk2]) ?_
    refine lv_imul hx hb dX2_take_130 ?_
    refine ktop (y := nI (8 * (st.2.2.2))) (pk_mul _ _) ?_
    refine lv_bipush (v := nI 8) hx hb dX2_take_131 (by decide) ?_
    refine lv_isub hx hb dX2_take_133 ?_
    refine ktop (y := nI (8 * st.2.2.2 - 8)) (by exact pk_sub (by omega)) ?_
    refine lv_icmp_ge (tgt := 160) hx hb dX2_take_134 (by decide) (fun c134 => ?_) (fun c134 => ?_)
    ·
      rw [nI_leI (by omega) (by omega)] at c134
      obtain rfl : f = 0 := by omega
      refine lv_aload_n hx hb dX2_take_160 rfl (lv_at hl 2 rfl) ?_
      refine lv_dup hx hb dX2_take_161 rfl ?_
      refine m_get F hI 14 (by decide) rfl flX2_82 dX2_take_162 ?_
      refine ktop (y := nI (u2.2.2.2)) rfl ?_
      refine ktop (y := nI (st.2.2.2)) (by rw [huk2]) ?_
      refine lv_iconst (v := nI 1) hx hb dX2_take_165 (by decide) ?_
      refine lv_isub hx hb dX2_take_166 ?_
      refine ktop (y := nI (st.2.2.2 - 1)) (by exact pk_sub (by omega)) ?_
      refine m_putKm F hI flX2_82 dX2_take_167 (fun H locs hI => ?_)
      refine lv_iload_n hx hb dX2_take_170 rfl (lv_at hl 1 rfl) ?_
      exact kret_i F hI dX2_take_171 (⟨rfl, he⟩)
    ·
      rw [nI_leI (by omega) (by omega)] at c134
      obtain ⟨f, rfl⟩ : ∃ f', f = f' + 1 := ⟨f - 1, by omega⟩
      refine lv_aload_n hx hb dX2_take_137 rfl (lv_at hl 2 rfl) ?_
      refine m_get F hI 13 (by decide) rfl flX2_41 dX2_take_138 ?_
      refine lv_iload hx hb dX2_take_141 (lv_at hl 0 rfl) ?_
      refine lv_aload_n hx hb dX2_take_143 rfl (lv_at hl 2 rfl) ?_
      refine m_get F hI 13 (by decide) rfl flX2_41 dX2_take_144 ?_
      refine lv_iload hx hb dX2_take_147 (lv_at hl 0 rfl) ?_
      refine lv_bipush (v := nI 8) hx hb dX2_take_149 (by decide) ?_
      refine lv_iadd hx hb dX2_take_151 ?_
      refine ktop (y := nI (k + 8)) (nI_add _ _) ?_
      refine m_ald F hI  10 (show (k + 8) < 160 by omega) rfl dX2_take_152 ?_
      refine m_ast F hI 10 (show k < 160 by omega) rfl dX2_take_153 (fun H locs hI => ?_)
      have hI : kI D _ A s.heap (mcp u2 10 k 10 (k + 8)) H locs := hI
      generalize hS153 : mcp u2 10 k 10 (k + 8) = S153 at hI
      refine lv_iinc (v := nI (k + 1)) (lv' := [(5, .int _), (2, .int _), (0, .ref _), (1, .int _)]) hx hb dX2_take_154 hl (k := 0) rfl (kinc _ 1) (by decide) rfl (fun ls hl => ?_)
      refine lv_goto (tgt := 122) hx hb dX2_take_157 (by decide) ?_
      exact ih (f, k + 1, S153) _ _ _ (by show f < f + 1; omega) ⟨by show k + 1 + f = _; omega, by show 8 * i ≤ k + 1; omega, by rw [← hS153]; exact huk2, by rw [← he, ← hS153]; rfl, hI, lv_sub hl [0, 1, 2, 3] rfl⟩
  refine lv_aload_n hx hb dX2_take_0 rfl (lv_at hl 0 rfl) ?_
  refine lv_iconst (v := nI 0) hx hb dX2_take_1 (by decide) ?_
  refine m_putTh F hI flX2_53 dX2_take_2 (fun H locs hI => ?_)
  refine lv_iload_n hx hb dX2_take_5 rfl (lv_at hl 1 rfl) ?_
  refine lv_iconst (v := nI 0) hx hb dX2_take_6 (by decide) ?_
  refine lv_aload_n hx hb dX2_take_7 rfl (lv_at hl 0 rfl) ?_
  refine m_get F hI 14 (by decide) rfl flX2_82 dX2_take_8 ?_
  refine ktop (y := nI (st.2.2.2)) rfl ?_
  refine lv_iconst (v := nI 1) hx hb dX2_take_11 (by decide) ?_
  refine lv_isub hx hb dX2_take_12 ?_
  refine kcallS (rest := []) F hA hI (mc_in l _ _ _ _) kgX2_57 hl.1 rfl rfl (Nat.le_of_ble_eq_true rfl) dX2_take_13 ⟨Nat.le_of_ble_eq_true rfl, Nat.le_of_ble_eq_true rfl⟩ ⟨Nat.le_of_ble_eq_true rfl, Nat.le_of_ble_eq_true rfl⟩ (fun vq uq H locs hp hI => ?_)
  obtain ⟨rfl, hu⟩ := hp
  rw [hu] at hI
  clear hu
  refine kstk (b := .int _ :: []) rfl ?_
  refine lv_if_ne (tgt := 21) hx hb dX2_take_16 (by decide) (fun c16 => ?_) (fun c16 => absurd c16 ((fun q => by rw [bI_z, g1] at q; cases q)))
  refine lv_aload_n hx hb dX2_take_21 rfl (lv_at hl 0 rfl) ?_
  refine m_get F hI 13 (by decide) rfl flX2_41 dX2_take_22 ?_
  refine lv_bipush (v := nI 8) hx hb dX2_take_25 (by decide) ?_
  refine lv_iload_n hx hb dX2_take_27 rfl (lv_at hl 1 rfl) ?_
  refine lv_imul hx hb dX2_take_28 ?_
  refine ktop (y := nI (8 * i)) (pk_mul _ _) ?_
  refine m_ald F hI  10 (show (8 * i) < 160 by omega) rfl dX2_take_29 ?_
  refine ktop (y := nI (n)) (by exact h0) ?_
  refine lv_istore_n (lv' := [(2, .int _), (0, .ref _), (1, .int _)]) hx hb dX2_take_30 rfl hl (by decide) rfl (fun ls hl => ?_)
  refine lv_aload_n hx hb dX2_take_31 rfl (lv_at hl 1 rfl) ?_
  refine m_get F hI 13 (by decide) rfl flX2_41 dX2_take_32 ?_
  refine lv_bipush (v := nI 8) hx hb dX2_take_35 (by decide) ?_
  refine lv_iload_n hx hb dX2_take_37 rfl (lv_at hl 2 rfl) ?_
  refine lv_imul hx hb dX2_take_38 ?_
  refine ktop (y := nI (8 * i)) (pk_mul _ _) ?_
  refine lv_iconst (v := nI 2) hx hb dX2_take_39 (by decide) ?_
  refine lv_iadd hx hb dX2_take_40 ?_
  refine ktop (y := nI ((8 * i) + 2)) (nI_add _ _) ?_
  refine m_ald F hI  10 (show ((8 * i) + 2) < 160 by omega) rfl dX2_take_41 ?_
  refine ktop (y := nI (sh)) (by exact h2) ?_
  refine lv_istore_n (lv' := [(3, .int _), (2, .int _), (0, .ref _), (1, .int _)]) hx hb dX2_take_42 rfl hl (by decide) rfl (fun ls hl => ?_)
  refine lv_aload_n hx hb dX2_take_43 rfl (lv_at hl 2 rfl) ?_
  refine m_get F hI 13 (by decide) rfl flX2_41 dX2_take_44 ?_
  refine lv_bipush (v := nI 8) hx hb dX2_take_47 (by decide) ?_
  refine lv_iload_n hx hb dX2_take_49 rfl (lv_at hl 3 rfl) ?_
  refine lv_imul hx hb dX2_take_50 ?_
  refine ktop (y := nI (8 * i)) (pk_mul _ _) ?_
  refine lv_iconst (v := nI 4) hx hb dX2_take_51 (by decide) ?_
  refine lv_iadd hx hb dX2_take_52 ?_
  refine ktop (y := nI ((8 * i) + 4)) (nI_add _ _) ?_
  refine m_ald F hI  10 (show ((8 * i) + 4) < 160 by omega) rfl dX2_take_53 ?_
  refine lv_istore (lv' := [(4, .int _), (3, .int _), (2, .int _), (0, .ref _), (1, .int _)]) hx hb dX2_take_54 hl (by decide) rfl (fun ls hl => ?_)
  refine lv_aload_n hx hb dX2_take_56 rfl (lv_at hl 3 rfl) ?_
  refine m_get F hI 15 (by decide) rfl flX2_44 dX2_take_57 ?_
  refine lv_bipush (v := nI 7) hx hb dX2_take_60 (by decide) ?_
  refine lv_iload_n hx hb dX2_take_62 rfl (lv_at hl 1 rfl) ?_
  refine lv_imul hx hb dX2_take_63 ?_
  refine ktop (y := nI (7 * (sh))) (pk_mul _ _) ?_
  refine lv_iconst (v := nI 1) hx hb dX2_take_64 (by decide) ?_
  refine lv_iadd hx hb dX2_take_65 ?_
  refine ktop (y := nI ((7 * (sh)) + 1)) (nI_add _ _) ?_
  refine lv_dup2_11 hx hb dX2_take_66 rfl rfl ?_
  refine m_ald F hI  11 (show ((7 * (sh)) + 1) < 35 by omega) rfl dX2_take_67 ?_
  refine lv_iload hx hb dX2_take_68 (lv_at hl 0 rfl) ?_
  refine lv_isub hx hb dX2_take_70 ?_
  refine m_ast F hI 11 (show ((7 * (sh)) + 1) < 35 by omega) rfl dX2_take_71 (fun H locs hI => ?_)
  have hI : kI D _ A s.heap (mset st 11 (7 * sh + 1) (st.1 11 (7 * sh + 1) - st.1 10 (8 * i + 4))) H locs := hI
  generalize hS71 : mset st 11 (7 * sh + 1) (st.1 11 (7 * sh + 1) - st.1 10 (8 * i + 4)) = S71 at hI
  refine lv_aload_n hx hb dX2_take_72 rfl (lv_at hl 3 rfl) ?_
  refine m_get F hI 15 (by decide) rfl flX2_44 dX2_take_73 ?_
  refine lv_bipush (v := nI 7) hx hb dX2_take_76 (by decide) ?_
  refine lv_iload_n hx hb dX2_take_78 rfl (lv_at hl 1 rfl) ?_
  refine lv_imul hx hb dX2_take_79 ?_
  refine ktop (y := nI (7 * (sh))) (pk_mul _ _) ?_
  refine lv_iconst (v := nI 2) hx hb dX2_take_80 (by decide) ?_
  refine lv_iadd hx hb dX2_take_81 ?_
  refine ktop (y := nI ((7 * (sh)) + 2)) (nI_add _ _) ?_
  refine lv_dup2_11 hx hb dX2_take_82 rfl rfl ?_
  refine m_ald F hI  11 (show ((7 * (sh)) + 2) < 35 by omega) rfl dX2_take_83 ?_
  refine lv_iload hx hb dX2_take_84 (lv_at hl 0 rfl) ?_
  refine lv_iadd hx hb dX2_take_86 ?_
  refine m_ast F hI 11 (show ((7 * (sh)) + 2) < 35 by omega) rfl dX2_take_87 (fun H locs hI => ?_)
  have hI : kI D _ A s.heap (madd S71 11 (7 * sh + 2) (st.1 10 (8 * i + 4))) H locs := hI
  generalize hS87 : madd S71 11 (7 * sh + 2) (st.1 10 (8 * i + 4)) = S87 at hI
  refine lv_aload_n hx hb dX2_take_88 rfl (lv_at hl 3 rfl) ?_
  refine m_get F hI 11 (by decide) rfl flX2_35 dX2_take_89 ?_
  refine lv_iload_n hx hb dX2_take_92 rfl (lv_at hl 2 rfl) ?_
  refine m_ald F hI  8 (show (n) < 100 by omega) rfl dX2_take_93 ?_
  refine lv_aload_n hx hb dX2_take_94 rfl (lv_at hl 3 rfl) ?_
  refine m_get F hI 13 (by decide) rfl flX2_41 dX2_take_95 ?_
  refine lv_bipush (v := nI 8) hx hb dX2_take_98 (by decide) ?_
  refine lv_iload_n hx hb dX2_take_100 rfl (lv_at hl 4 rfl) ?_
  refine lv_imul hx hb dX2_take_101 ?_
  refine ktop (y := nI (8 * i)) (pk_mul _ _) ?_
  refine lv_bipush (v := nI 7) hx hb dX2_take_102 (by decide) ?_
  refine lv_iadd hx hb dX2_take_104 ?_
  refine ktop (y := nI ((8 * i) + 7)) (nI_add _ _) ?_
  refine m_ald F hI  10 (show ((8 * i) + 7) < 160 by omega) rfl dX2_take_105 ?_
  refine lv_icmp_ne (tgt := 116) hx hb dX2_take_106 (by decide) (fun c106 => ?_) (fun c106 => ?_)
  ·
    exact h116 _ _ _ _ hI (by rw [m_takeA, hS71, hS87, m_tk8, if_neg c106]) (lv_sub hl [2, 3, 4] rfl)
  ·
    refine lv_aload_n hx hb dX2_take_109 rfl (lv_at hl 3 rfl) ?_
    refine m_get F hI 11 (by decide) rfl flX2_35 dX2_take_110 ?_
    refine lv_iload_n hx hb dX2_take_113 rfl (lv_at hl 2 rfl) ?_
    refine lv_iconst (v := nI 0) hx hb dX2_take_114 (by decide) ?_
    refine m_ast F hI 8 (show (n) < 100 by omega) rfl dX2_take_115 (fun H locs hI => ?_)
    exact h116 _ _ _ _ hI (by rw [m_takeA, hS71, hS87, m_tk8, if_pos c106]) (lv_sub hl [2, 3, 4] rfl)
theorem mc_shape_bad (st : MS) (x w : Int32) (h : inR x (nI 0) (nI 4) = false ∨ inR w (nI 0) (nI 6) = false) : kM l yX2_shape cX2_shape 3 (some .int) 1 22 0 0 D (mty K) (mw g K) [.ref (g 0), .int x, .int w] st (fun v u => v = some (.int (-1)) ∧ u = st) := by
  refine kM_intro (by decide) (Nat.le_of_ble_eq_true rfl) ?_
  intro p e s m below meth c A ls F hA hI hl
  obtain ⟨hx, hb, hr, hml, hown, hts, hlk, hK, hnm⟩ := id F
  have hl : lv_has ls 3 [(0, .ref (g 0)), (1, .int x), (2, .int w)] := hl
  refine lv_aload_n hx hb dX2_shape_0 rfl (lv_at hl 0 rfl) ?_
  refine lv_iconst (v := nI 0) hx hb dX2_shape_1 (by decide) ?_
  refine m_putTh F hI flX2_53 dX2_shape_2 (fun H locs hI => ?_)
  refine lv_iload_n hx hb dX2_shape_5 rfl (lv_at hl 1 rfl) ?_
  refine lv_iconst (v := nI 0) hx hb dX2_shape_6 (by decide) ?_
  refine lv_iconst (v := nI 4) hx hb dX2_shape_7 (by decide) ?_
  refine kcallS (rest := []) F hA hI (mc_in l _ _ _ _) kgX2_57 hl.1 rfl rfl (Nat.le_of_ble_eq_true rfl) dX2_shape_8 ⟨Nat.le_of_ble_eq_true rfl, Nat.le_of_ble_eq_true rfl⟩ ⟨Nat.le_of_ble_eq_true rfl, Nat.le_of_ble_eq_true rfl⟩ (fun vq uq H locs hp hI => ?_)
  obtain ⟨rfl, hu⟩ := hp
  rw [hu] at hI
  clear hu
  refine kstk (b := .int _ :: []) rfl ?_
  refine lv_if_eq (tgt := 38) hx hb dX2_shape_11 (by decide) (fun c11 => ?_) (fun c11 => ?_)
  ·
    rw [bI_z] at c11
    refine lv_iconst (v := -1) hx hb dX2_shape_38 (by decide) ?_
    exact kret_i F hI dX2_shape_39 (⟨rfl, rfl⟩)
  ·
    rw [bI_z] at c11
    refine lv_iload_n hx hb dX2_shape_14 rfl (lv_at hl 2 rfl) ?_
    refine lv_iconst (v := nI 0) hx hb dX2_shape_15 (by decide) ?_
    refine lv_bipush (v := nI 6) hx hb dX2_shape_16 (by decide) ?_
    refine kcallS (rest := []) F hA hI (mc_in l _ _ _ _) kgX2_57 hl.1 rfl rfl (Nat.le_of_ble_eq_true rfl) dX2_shape_18 ⟨Nat.le_of_ble_eq_true rfl, Nat.le_of_ble_eq_true rfl⟩ ⟨Nat.le_of_ble_eq_true rfl, Nat.le_of_ble_eq_true rfl⟩ (fun vq uq H locs hp hI => ?_)
    obtain ⟨rfl, hu⟩ := hp
    rw [hu] at hI
    clear hu
    refine kstk (b := .int _ :: []) rfl ?_
    refine lv_if_eq (tgt := 38) hx hb dX2_shape_21 (by decide) (fun c21 => ?_) (fun c21 => absurd c21 ((fun q => q (bI_z.mpr (h.resolve_left c11)))))
    refine lv_iconst (v := -1) hx hb dX2_shape_38 (by decide) ?_
    exact kret_i F hI dX2_shape_39 (⟨rfl, rfl⟩)
theorem mc_shape (st : MS) (i w : Nat) (hi : i < 5) (hw : w < 7) : kM l yX2_shape cX2_shape 3 (some .int) 1 22 0 0 D (mty K) (mw g K) [.ref (g 0), .int (nI i), .int (nI w)] st (fun v u => v = some (.int (st.1 11 (7 * i + w))) ∧ u = st) := by
  refine kM_intro (by decide) (Nat.le_of_ble_eq_true rfl) ?_
  intro p e s m below meth c A ls F hA hI hl
  obtain ⟨hx, hb, hr, hml, hown, hts, hlk, hK, hnm⟩ := id F
  have hl : lv_has ls 3 [(0, .ref (g 0)), (1, .int (nI i)), (2, .int (nI w))] := hl
  have g1 : inR (nI i) (nI 0) (nI 4) = true := inR_in (by decide) (by omega) (by omega)
  have g2 : inR (nI w) (nI 0) (nI 6) = true := inR_in (by decide) (by omega) (by omega)
  refine lv_aload_n hx hb dX2_shape_0 rfl (lv_at hl 0 rfl) ?_
  refine lv_iconst (v := nI 0) hx hb dX2_shape_1 (by decide) ?_
  refine m_putTh F hI flX2_53 dX2_shape_2 (fun H locs hI => ?_)
  refine lv_iload_n hx hb dX2_shape_5 rfl (lv_at hl 1 rfl) ?_
  refine lv_iconst (v := nI 0) hx hb dX2_shape_6 (by decide) ?_
  refine lv_iconst (v := nI 4) hx hb dX2_shape_7 (by decide) ?_
  refine kcallS (rest := []) F hA hI (mc_in l _ _ _ _) kgX2_57 hl.1 rfl rfl (Nat.le_of_ble_eq_true rfl) dX2_shape_8 ⟨Nat.le_of_ble_eq_true rfl, Nat.le_of_ble_eq_true rfl⟩ ⟨Nat.le_of_ble_eq_true rfl, Nat.le_of_ble_eq_true rfl⟩ (fun vq uq H locs hp hI => ?_)
  obtain ⟨rfl, hu⟩ := hp
  rw [hu] at hI
  clear hu
  refine kstk (b := .int _ :: []) rfl ?_
  refine lv_if_eq (tgt := 38) hx hb dX2_shape_11 (by decide) (fun c11 => absurd c11 ((fun q => by rw [bI_z, g1] at q; cases q))) (fun c11 => ?_)
  refine lv_iload_n hx hb dX2_shape_14 rfl (lv_at hl 2 rfl) ?_
  refine lv_iconst (v := nI 0) hx hb dX2_shape_15 (by decide) ?_
  refine lv_bipush (v := nI 6) hx hb dX2_shape_16 (by decide) ?_
  refine kcallS (rest := []) F hA hI (mc_in l _ _ _ _) kgX2_57 hl.1 rfl rfl (Nat.le_of_ble_eq_true rfl) dX2_shape_18 ⟨Nat.le_of_ble_eq_true rfl, Nat.le_of_ble_eq_true rfl⟩ ⟨Nat.le_of_ble_eq_true rfl, Nat.le_of_ble_eq_true rfl⟩ (fun vq uq H locs hp hI => ?_)
  obtain ⟨rfl, hu⟩ := hp
  rw [hu] at hI
  clear hu
  refine kstk (b := .int _ :: []) rfl ?_
  refine lv_if_eq (tgt := 38) hx hb dX2_shape_21 (by decide) (fun c21 => absurd c21 ((fun q => by rw [bI_z, g2] at q; cases q))) (fun c21 => ?_)
  refine lv_aload_n hx hb dX2_shape_24 rfl (lv_at hl 0 rfl) ?_
  refine m_get F hI 15 (by decide) rfl flX2_44 dX2_shape_25 ?_
  refine lv_bipush (v := nI 7) hx hb dX2_shape_28 (by decide) ?_
  refine lv_iload_n hx hb dX2_shape_30 rfl (lv_at hl 1 rfl) ?_
  refine lv_imul hx hb dX2_shape_31 ?_
  refine ktop (y := nI (7 * i)) (pk_mul _ _) ?_
  refine lv_iload_n hx hb dX2_shape_32 rfl (lv_at hl 2 rfl) ?_
  refine lv_iadd hx hb dX2_shape_33 ?_
  refine ktop (y := nI ((7 * i) + w)) (nI_add _ _) ?_
  refine m_ald F hI  11 (show ((7 * i) + w) < 35 by omega) rfl dX2_shape_34 ?_
  refine lv_goto (tgt := 39) hx hb dX2_shape_35 (by decide) ?_
  exact kret_i F hI dX2_shape_39 (⟨rfl, rfl⟩)
theorem mc_step_bad (st : MS) (x : Int32) (h : inR x (nI 0) (nI 13) = false) : kM l yX2_step cX2_step 2 (some .int) 1 22 0 0 D (mty K) (mw g K) [.ref (g 0), .int x] st (fun v u => v = some (.int (-1)) ∧ u = st) := by
  refine kM_intro (by decide) (Nat.le_of_ble_eq_true rfl) ?_
  intro p e s m below meth c A ls F hA hI hl
  obtain ⟨hx, hb, hr, hml, hown, hts, hlk, hK, hnm⟩ := id F
  have hl : lv_has ls 2 [(0, .ref (g 0)), (1, .int x)] := hl
  refine lv_aload_n hx hb dX2_step_0 rfl (lv_at hl 0 rfl) ?_
  refine lv_iconst (v := nI 0) hx hb dX2_step_1 (by decide) ?_
  refine m_putTh F hI flX2_53 dX2_step_2 (fun H locs hI => ?_)
  refine lv_iload_n hx hb dX2_step_5 rfl (lv_at hl 1 rfl) ?_
  refine lv_iconst (v := nI 0) hx hb dX2_step_6 (by decide) ?_
  refine lv_bipush (v := nI 13) hx hb dX2_step_7 (by decide) ?_
  refine kcallS (rest := []) F hA hI (mc_in l _ _ _ _) kgX2_57 hl.1 rfl rfl (Nat.le_of_ble_eq_true rfl) dX2_step_9 ⟨Nat.le_of_ble_eq_true rfl, Nat.le_of_ble_eq_true rfl⟩ ⟨Nat.le_of_ble_eq_true rfl, Nat.le_of_ble_eq_true rfl⟩ (fun vq uq H locs hp hI => ?_)
  obtain ⟨rfl, hu⟩ := hp
  rw [hu] at hI
  clear hu
  refine kstk (b := .int _ :: []) rfl ?_
  refine lv_if_eq (tgt := 24) hx hb dX2_step_12 (by decide) (fun c12 => ?_) (fun c12 => absurd c12 ((fun q => q (bI_z.mpr h))))
  refine lv_iconst (v := -1) hx hb dX2_step_24 (by decide) ?_
  exact kret_i F hI dX2_step_25 (⟨rfl, rfl⟩)
theorem mc_step (st : MS) (j : Nat) (hj : j < 14) : kM l yX2_step cX2_step 2 (some .int) 1 22 0 0 D (mty K) (mw g K) [.ref (g 0), .int (nI j)] st (fun v u => v = some (.int (st.1 12 j)) ∧ u = st) := by
  refine kM_intro (by decide) (Nat.le_of_ble_eq_true rfl) ?_
  intro p e s m below meth c A ls F hA hI hl
  obtain ⟨hx, hb, hr, hml, hown, hts, hlk, hK, hnm⟩ := id F
  have hl : lv_has ls 2 [(0, .ref (g 0)), (1, .int (nI j))] := hl
  have g1 : inR (nI j) (nI 0) (nI 13) = true := inR_in (by decide) (by omega) (by omega)
  refine lv_aload_n hx hb dX2_step_0 rfl (lv_at hl 0 rfl) ?_
  refine lv_iconst (v := nI 0) hx hb dX2_step_1 (by decide) ?_
  refine m_putTh F hI flX2_53 dX2_step_2 (fun H locs hI => ?_)
  refine lv_iload_n hx hb dX2_step_5 rfl (lv_at hl 1 rfl) ?_
  refine lv_iconst (v := nI 0) hx hb dX2_step_6 (by decide) ?_
  refine lv_bipush (v := nI 13) hx hb dX2_step_7 (by decide) ?_
  refine kcallS (rest := []) F hA hI (mc_in l _ _ _ _) kgX2_57 hl.1 rfl rfl (Nat.le_of_ble_eq_true rfl) dX2_step_9 ⟨Nat.le_of_ble_eq_true rfl, Nat.le_of_ble_eq_true rfl⟩ ⟨Nat.le_of_ble_eq_true rfl, Nat.le_of_ble_eq_true rfl⟩ (fun vq uq H locs hp hI => ?_)
  obtain ⟨rfl, hu⟩ := hp
  rw [hu] at hI
  clear hu
  refine kstk (b := .int _ :: []) rfl ?_
  refine lv_if_eq (tgt := 24) hx hb dX2_step_12 (by decide) (fun c12 => absurd c12 ((fun q => by rw [bI_z, g1] at q; cases q))) (fun c12 => ?_)
  refine lv_aload_n hx hb dX2_step_15 rfl (lv_at hl 0 rfl) ?_
  refine m_get F hI 16 (by decide) rfl flX2_47 dX2_step_16 ?_
  refine lv_iload_n hx hb dX2_step_19 rfl (lv_at hl 1 rfl) ?_
  refine m_ald F hI  12 (show j < 14 by omega) rfl dX2_step_20 ?_
  refine lv_goto (tgt := 25) hx hb dX2_step_21 (by decide) ?_
  exact kret_i F hI dX2_step_25 (⟨rfl, rfl⟩)
theorem mc_trace (st : MS) : kM l yX2_trace cX2_trace 1 (some .long) 0 0 0 0 D (mty K) (mw g K) [.ref (g 0)] st (fun v u => v = some (.long st.2.2.1) ∧ u = st) := by
  refine kM_intro (by decide) (Nat.le_of_ble_eq_true rfl) ?_
  intro p e s m below meth c A ls F hA hI hl
  obtain ⟨hx, hb, hr, hml, hown, hts, hlk, hK, hnm⟩ := id F
  have hl : lv_has ls 1 [(0, .ref (g 0))] := hl
  refine lv_aload_n hx hb dX2_trace_0 rfl (lv_at hl 0 rfl) ?_
  refine lv_iconst (v := nI 0) hx hb dX2_trace_1 (by decide) ?_
  refine m_putTh F hI flX2_53 dX2_trace_2 (fun H locs hI => ?_)
  refine lv_aload_n hx hb dX2_trace_5 rfl (lv_at hl 0 rfl) ?_
  refine m_get F hI 2 (by decide) rfl flX2_65 dX2_trace_6 ?_
  exact kret_l F hI dX2_trace_9 (⟨rfl, rfl⟩)
theorem mc_count_bad (st : MS) (x : Int32) (h : inR x (nI 0) (nI 12) = false) : kM l yX2_count cX2_count 4 (some .int) 1 22 0 0 D (mty K) (mw g K) [.ref (g 0), .int x] st (fun v u => v = some (.int (-1)) ∧ u = st) := by
  refine kM_intro (by decide) (Nat.le_of_ble_eq_true rfl) ?_
  intro p e s m below meth c A ls F hA hI hl
  obtain ⟨hx, hb, hr, hml, hown, hts, hlk, hK, hnm⟩ := id F
  have hl : lv_has ls 4 [(0, .ref (g 0)), (1, .int x)] := hl
  refine lv_aload_n hx hb dX2_count_0 rfl (lv_at hl 0 rfl) ?_
  refine lv_iconst (v := nI 0) hx hb dX2_count_1 (by decide) ?_
  refine m_putTh F hI flX2_53 dX2_count_2 (fun H locs hI => ?_)
  refine lv_iload_n hx hb dX2_count_5 rfl (lv_at hl 1 rfl) ?_
  refine lv_iconst (v := nI 0) hx hb dX2_count_6 (by decide) ?_
  refine lv_bipush (v := nI 12) hx hb dX2_count_7 (by decide) ?_
  refine kcallS (rest := []) F hA hI (mc_in l _ _ _ _) kgX2_57 hl.1 rfl rfl (Nat.le_of_ble_eq_true rfl) dX2_count_9 ⟨Nat.le_of_ble_eq_true rfl, Nat.le_of_ble_eq_true rfl⟩ ⟨Nat.le_of_ble_eq_true rfl, Nat.le_of_ble_eq_true rfl⟩ (fun vq uq H locs hp hI => ?_)
  obtain ⟨rfl, hu⟩ := hp
  rw [hu] at hI
  clear hu
  refine kstk (b := .int _ :: []) rfl ?_
  refine lv_if_ne (tgt := 17) hx hb dX2_count_12 (by decide) (fun c12 => absurd c12 ((fun q => q (bI_z.mpr h)))) (fun c12 => ?_)
  refine lv_iconst (v := -1) hx hb dX2_count_15 (by decide) ?_
  exact kret_i F hI dX2_count_16 (⟨rfl, rfl⟩)
theorem mc_count (st : MS) (w : Nat) (hw : w < 13) : kM l yX2_count cX2_count 4 (some .int) 1 22 0 0 D (mty K) (mw g K) [.ref (g 0), .int (nI w)] st (fun v u => v = some (.int (m_count st w)) ∧ u = st) := by
  refine kM_intro (by decide) (Nat.le_of_ble_eq_true rfl) ?_
  intro p e s m below meth c A ls F hA hI hl
  obtain ⟨hx, hb, hr, hml, hown, hts, hlk, hK, hnm⟩ := id F
  have hl : lv_has ls 4 [(0, .ref (g 0)), (1, .int (nI w))] := hl
  have g1 : inR (nI w) (nI 0) (nI 12) = true := inR_in (by decide) (by omega) (by omega)
  have z0 : nI w = 0 ↔ w = 0 := nI_eq (b := 0) (by omega) (by decide)
  refine lv_aload_n hx hb dX2_count_0 rfl (lv_at hl 0 rfl) ?_
  refine lv_iconst (v := nI 0) hx hb dX2_count_1 (by decide) ?_
  refine m_putTh F hI flX2_53 dX2_count_2 (fun H locs hI => ?_)
  refine lv_iload_n hx hb dX2_count_5 rfl (lv_at hl 1 rfl) ?_
  refine lv_iconst (v := nI 0) hx hb dX2_count_6 (by decide) ?_
  refine lv_bipush (v := nI 12) hx hb dX2_count_7 (by decide) ?_
  refine kcallS (rest := []) F hA hI (mc_in l _ _ _ _) kgX2_57 hl.1 rfl rfl (Nat.le_of_ble_eq_true rfl) dX2_count_9 ⟨Nat.le_of_ble_eq_true rfl, Nat.le_of_ble_eq_true rfl⟩ ⟨Nat.le_of_ble_eq_true rfl, Nat.le_of_ble_eq_true rfl⟩ (fun vq uq H locs hp hI => ?_)
  obtain ⟨rfl, hu⟩ := hp
  rw [hu] at hI
  clear hu
  refine kstk (b := .int _ :: []) rfl ?_
  refine lv_if_ne (tgt := 17) hx hb dX2_count_12 (by decide) (fun c12 => ?_) (fun c12 => absurd c12 ((fun q => by rw [bI_z, g1] at q; cases q)))
  refine lv_iconst (v := nI 0) hx hb dX2_count_17 (by decide) ?_
  refine lv_istore_n (lv' := [(2, .int _), (0, .ref _), (1, .int _)]) hx hb dX2_count_18 rfl hl (by decide) rfl (fun ls hl => ?_)
  refine lv_iconst (v := nI 0) hx hb dX2_count_19 (by decide) ?_
  refine lv_istore_n (lv' := [(3, .int _), (2, .int _), (0, .ref _), (1, .int _)]) hx hb dX2_count_20 rfl hl (by decide) rfl (fun ls hl => ?_)
  refine wloop (σ := Nat × Nat × Int32) (fun x => x.1) (fun x H locs ls => x.2.1 + x.1 = 4 ∧ m_upL st x.1 x.2.1 x.2.2 = m_upL st 4 0 (nI 0) ∧ kI D (mw g K) A s.heap st H locs ∧ lv_has ls 4 [(3, .int (nI x.2.1)), (2, .int x.2.2), (0, .ref (g 0)), (1, .int (nI w))]) ?_ (4, 0, nI 0) _ _ _ ⟨rfl, rfl, hI, lv_sub hl [0, 1, 2, 3] rfl⟩
  rintro ⟨f, k, v⟩ H locs ls ⟨hk, he, hI, hl⟩ ih
  dsimp only at hk he hI hl ih
  refine lv_iload_n hx hb dX2_count_21 rfl (lv_at hl 0 rfl) ?_
  refine lv_iconst (v := nI 4) hx hb dX2_count_22 (by decide) ?_
  refine lv_icmp_ge (tgt := 49) hx hb dX2_count_23 (by decide) (fun c23 => ?_) (fun c23 => ?_)
  ·
    rw [nI_leI (by omega) (by omega)] at c23
    obtain rfl : f = 0 := by omega
    have he : v = m_upL st 4 0 (nI 0) := he
    refine lv_iload_n hx hb dX2_count_49 rfl (lv_at hl 3 rfl) ?_
    refine lv_if_ne (tgt := 60) hx hb dX2_count_50 (by decide) (fun c50 => ?_) (fun c50 => ?_)
    ·
      rw [z0] at c50
      refine lv_iload_n hx hb dX2_count_60 rfl (lv_at hl 3 rfl) ?_
      refine lv_iconst (v := nI 1) hx hb dX2_count_61 (by decide) ?_
      refine lv_icmp_ne (tgt := 72) hx hb dX2_count_62 (by decide) (fun c62 => ?_) (fun c62 => ?_)
      ·
        rw [nI_eq (by omega) (by omega)] at c62
        refine lv_iload_n hx hb dX2_count_72 rfl (lv_at hl 3 rfl) ?_
        refine lv_iconst (v := nI 2) hx hb dX2_count_73 (by decide) ?_
        refine lv_icmp_ne (tgt := 84) hx hb dX2_count_74 (by decide) (fun c74 => ?_) (fun c74 => ?_)
        ·
          rw [nI_eq (by omega) (by omega)] at c74
          refine lv_iload_n hx hb dX2_count_84 rfl (lv_at hl 3 rfl) ?_
          refine lv_bipush (v := nI 12) hx hb dX2_count_85 (by decide) ?_
          refine lv_icmp_ne (tgt := 94) hx hb dX2_count_87 (by decide) (fun c87 => ?_) (fun c87 => ?_)
          ·
            rw [nI_eq (by omega) (by omega)] at c87
            refine lv_aload_n hx hb dX2_count_94 rfl (lv_at hl 2 rfl) ?_
            refine m_get F hI 17 (by decide) rfl flX2_50 dX2_count_95 ?_
            refine lv_iload_n hx hb dX2_count_98 rfl (lv_at hl 3 rfl) ?_
            refine m_ald F hI  13 (show w < 13 by omega) rfl dX2_count_99 ?_
            exact kret_i F hI dX2_count_100 (⟨by simp [m_count, c50, c62, c74, c87], rfl⟩)
          ·
            rw [nI_eq (by omega) (by omega)] at c87
            refine lv_iload_n hx hb dX2_count_90 rfl (lv_at hl 1 rfl) ?_
            refine lv_goto (tgt := 100) hx hb dX2_count_91 (by decide) ?_
            exact kret_i F hI dX2_count_100 (⟨by simp [m_count, c87, he], rfl⟩)
        ·
          rw [nI_eq (by omega) (by omega)] at c74
          refine lv_aload_n hx hb dX2_count_77 rfl (lv_at hl 2 rfl) ?_
          refine m_get F hI 14 (by decide) rfl flX2_82 dX2_count_78 ?_
          refine ktop (y := nI (st.2.2.2)) rfl ?_
          refine lv_goto (tgt := 100) hx hb dX2_count_81 (by decide) ?_
          exact kret_i F hI dX2_count_100 (⟨by simp [m_count, c74], rfl⟩)
      ·
        rw [nI_eq (by omega) (by omega)] at c62
        refine lv_aload_n hx hb dX2_count_65 rfl (lv_at hl 2 rfl) ?_
        refine kcallV (rest := []) F hA hI (mc_waitingMany l _) kgX2_100 (m_rec F hI) hl.1 rfl rfl (Nat.le_of_ble_eq_true rfl) dX2_count_66 ⟨Nat.le_of_ble_eq_true rfl, Nat.le_of_ble_eq_true rfl⟩ ⟨Nat.le_of_ble_eq_true rfl, Nat.le_of_ble_eq_true rfl⟩ (fun vq uq H locs hp hI => ?_)
        obtain ⟨rfl, hu⟩ := hp
        rw [hu] at hI
        clear hu
        refine kstk (b := .int _ :: []) rfl ?_
        refine lv_goto (tgt := 100) hx hb dX2_count_69 (by decide) ?_
        exact kret_i F hI dX2_count_100 (⟨by simp [m_count, c62], rfl⟩)
    ·
      rw [z0] at c50
      refine lv_aload_n hx hb dX2_count_53 rfl (lv_at hl 2 rfl) ?_
      refine m_get F hI 1 (by decide) rfl flX2_79 dX2_count_54 ?_
      refine lv_goto (tgt := 100) hx hb dX2_count_57 (by decide) ?_
      exact kret_i F hI dX2_count_100 (⟨by simp [m_count, c50], rfl⟩)
  ·
    rw [nI_leI (by omega) (by omega)] at c23
    obtain ⟨f, rfl⟩ : ∃ f', f = f' + 1 := ⟨f - 1, by omega⟩
    refine lv_iload_n hx hb dX2_count_26 rfl (lv_at hl 1 rfl) ?_
    refine lv_aload_n hx hb dX2_count_27 rfl (lv_at hl 2 rfl) ?_
    refine m_get F hI 3 (by decide) rfl flX2_7 dX2_count_28 ?_
    refine lv_iload_n hx hb dX2_count_31 rfl (lv_at hl 0 rfl) ?_
    refine m_zald F hI  0 (show k < 4 by omega) rfl dX2_count_32 ?_
    refine lv_if_eq (tgt := 40) hx hb dX2_count_33 (by decide) (fun c33 => ?_) (fun c33 => ?_)
    ·
      refine lv_iconst (v := nI 1) hx hb dX2_count_40 (by decide) ?_
      refine lv_iadd hx hb dX2_count_41 ?_
      refine lv_istore_n (lv' := [(2, .int _), (3, .int _), (0, .ref _), (1, .int _)]) hx hb dX2_count_42 rfl hl (by decide) rfl (fun ls hl => ?_)
      refine lv_iinc (v := nI (k + 1)) (lv' := [(3, .int _), (2, .int _), (0, .ref _), (1, .int _)]) hx hb dX2_count_43 hl (k := 1) rfl (kinc _ 1) (by decide) rfl (fun ls hl => ?_)
      refine lv_goto (tgt := 21) hx hb dX2_count_46 (by decide) ?_
      exact ih (f, k + 1, _) _ _ _ (by show f < f + 1; omega) ⟨by show k + 1 + f = _; omega, by rw [← he]; simp [m_upL, c33], hI, lv_sub hl [0, 1, 2, 3] rfl⟩
    ·
      refine lv_iconst (v := nI 0) hx hb dX2_count_36 (by decide) ?_
      refine lv_goto (tgt := 41) hx hb dX2_count_37 (by decide) ?_
      refine lv_iadd hx hb dX2_count_41 ?_
      refine lv_istore_n (lv' := [(2, .int _), (3, .int _), (0, .ref _), (1, .int _)]) hx hb dX2_count_42 rfl hl (by decide) rfl (fun ls hl => ?_)
      refine lv_iinc (v := nI (k + 1)) (lv' := [(3, .int _), (2, .int _), (0, .ref _), (1, .int _)]) hx hb dX2_count_43 hl (k := 1) rfl (kinc _ 1) (by decide) rfl (fun ls hl => ?_)
      refine lv_goto (tgt := 21) hx hb dX2_count_46 (by decide) ?_
      exact ih (f, k + 1, _) _ _ _ (by show f < f + 1; omega) ⟨by show k + 1 + f = _; omega, by rw [← he]; simp [m_upL, c33], hI, lv_sub hl [0, 1, 2, 3] rfl⟩
theorem mc_bound_bad (st : MS) (a b w : Int32) (h : inR b (nI 1) (nI 1000) = false ∨ inR a (nI 0) b = false ∨ inR w (nI 0) (nI 1) = false) : kM l yX2_bound cX2_bound 7 (some .int) 1 22 0 0 D (mty K) (mw g K) [.ref (g 0), .int a, .int b, .int w] st (fun v u => v = some (.int (-1)) ∧ u = st) := by
  refine kM_intro (by decide) (Nat.le_of_ble_eq_true rfl) ?_
  intro p e s m below meth c A ls F hA hI hl
  obtain ⟨hx, hb, hr, hml, hown, hts, hlk, hK, hnm⟩ := id F
  have hl : lv_has ls 7 [(0, .ref (g 0)), (1, .int a), (2, .int b), (3, .int w)] := hl
  refine lv_aload_n hx hb dX2_bound_0 rfl (lv_at hl 0 rfl) ?_
  refine lv_iconst (v := nI 0) hx hb dX2_bound_1 (by decide) ?_
  refine m_putTh F hI flX2_53 dX2_bound_2 (fun H locs hI => ?_)
  refine lv_iload_n hx hb dX2_bound_5 rfl (lv_at hl 2 rfl) ?_
  refine lv_iconst (v := nI 1) hx hb dX2_bound_6 (by decide) ?_
  refine lv_sipush (v := nI 1000) hx hb dX2_bound_7 (by decide) ?_
  refine kcallS (rest := []) F hA hI (mc_in l _ _ _ _) kgX2_57 hl.1 rfl rfl (Nat.le_of_ble_eq_true rfl) dX2_bound_10 ⟨Nat.le_of_ble_eq_true rfl, Nat.le_of_ble_eq_true rfl⟩ ⟨Nat.le_of_ble_eq_true rfl, Nat.le_of_ble_eq_true rfl⟩ (fun vq uq H locs hp hI => ?_)
  obtain ⟨rfl, hu⟩ := hp
  rw [hu] at hI
  clear hu
  refine kstk (b := .int _ :: []) rfl ?_
  refine lv_if_eq (tgt := 34) hx hb dX2_bound_13 (by decide) (fun c13 => ?_) (fun c13 => ?_)
  ·
    rw [bI_z] at c13
    refine lv_iconst (v := -1) hx hb dX2_bound_34 (by decide) ?_
    exact kret_i F hI dX2_bound_35 (⟨rfl, rfl⟩)
  ·
    rw [bI_z] at c13
    refine lv_iload_n hx hb dX2_bound_16 rfl (lv_at hl 1 rfl) ?_
    refine lv_iconst (v := nI 0) hx hb dX2_bound_17 (by decide) ?_
    refine lv_iload_n hx hb dX2_bound_18 rfl (lv_at hl 2 rfl) ?_
    refine kcallS (rest := []) F hA hI (mc_in l _ _ _ _) kgX2_57 hl.1 rfl rfl (Nat.le_of_ble_eq_true rfl) dX2_bound_19 ⟨Nat.le_of_ble_eq_true rfl, Nat.le_of_ble_eq_true rfl⟩ ⟨Nat.le_of_ble_eq_true rfl, Nat.le_of_ble_eq_true rfl⟩ (fun vq uq H locs hp hI => ?_)
    obtain ⟨rfl, hu⟩ := hp
    rw [hu] at hI
    clear hu
    refine kstk (b := .int _ :: []) rfl ?_
    refine lv_if_eq (tgt := 34) hx hb dX2_bound_22 (by decide) (fun c22 => ?_) (fun c22 => ?_)
    ·
      rw [bI_z] at c22
      refine lv_iconst (v := -1) hx hb dX2_bound_34 (by decide) ?_
      exact kret_i F hI dX2_bound_35 (⟨rfl, rfl⟩)
    ·
      rw [bI_z] at c22
      refine lv_iload_n hx hb dX2_bound_25 rfl (lv_at hl 3 rfl) ?_
      refine lv_iconst (v := nI 0) hx hb dX2_bound_26 (by decide) ?_
      refine lv_iconst (v := nI 1) hx hb dX2_bound_27 (by decide) ?_
      refine kcallS (rest := []) F hA hI (mc_in l _ _ _ _) kgX2_57 hl.1 rfl rfl (Nat.le_of_ble_eq_true rfl) dX2_bound_28 ⟨Nat.le_of_ble_eq_true rfl, Nat.le_of_ble_eq_true rfl⟩ ⟨Nat.le_of_ble_eq_true rfl, Nat.le_of_ble_eq_true rfl⟩ (fun vq uq H locs hp hI => ?_)
      obtain ⟨rfl, hu⟩ := hp
      rw [hu] at hI
      clear hu
      refine kstk (b := .int _ :: []) rfl ?_
      refine lv_if_ne (tgt := 36) hx hb dX2_bound_31 (by decide) (fun c31 => absurd c31 ((fun q => q (bI_z.mpr ((h.resolve_left c13).resolve_left c22))))) (fun c31 => ?_)
      refine lv_iconst (v := -1) hx hb dX2_bound_34 (by decide) ?_
      exact kret_i F hI dX2_bound_35 (⟨rfl, rfl⟩)
theorem mc_bound (st : MS) (a b w : Nat) (sN : Nat → Nat) (T : Nat) (hb1 : 1 ≤ b) (hb2 : b ≤ 1000) (ha : a ≤ b) (hw : w < 2) (hT : T < 2 ^ 22) (hS : sumN sN 14 = T) (h12 : ∀ j, j < 14 → st.1 12 j = nI (sN j)) (h10 : st.1 13 10 = nI T) : kM l yX2_bound cX2_bound 7 (some .int) 1 22 0 0 D (mty K) (mw g K) [.ref (g 0), .int (nI a), .int (nI b), .int (nI w)] st (fun v u => v = some (.int (if T = 0 then -9 else bval (bnd sN T a b) w)) ∧ u = st) := by
  refine kM_intro (by decide) (Nat.le_of_ble_eq_true rfl) ?_
  intro p e s m below meth c A ls F hA hI hl
  obtain ⟨hx, hb, hr, hml, hown, hts, hlk, hK, hnm⟩ := id F
  have hl : lv_has ls 7 [(0, .ref (g 0)), (1, .int (nI a)), (2, .int (nI b)), (3, .int (nI w))] := hl
  have g1 : inR (nI b) (nI 1) (nI 1000) = true := inR_in (by decide) (by omega) (by omega)
  have g2 : inR (nI a) (nI 0) (nI b) = true := inR_in (by omega) (by omega) (by omega)
  have g3 : inR (nI w) (nI 0) (nI 1) = true := inR_in (by decide) (by omega) (by omega)
  have zT : nI T = 0 ↔ T = 0 := nI_eq (b := 0) (by omega) (by decide)
  have haT : a * T < 2 ^ 63 := Nat.lt_of_le_of_lt (Nat.mul_le_mul (show a ≤ 1000 by omega) (Nat.le_of_lt hT)) (by decide)
  by_cases hT0 : T = 0
  · have hl := hl
    refine lv_aload_n hx hb dX2_bound_0 rfl (lv_at hl 0 rfl) ?_
    refine lv_iconst (v := nI 0) hx hb dX2_bound_1 (by decide) ?_
    refine m_putTh F hI flX2_53 dX2_bound_2 (fun H locs hI => ?_)
    refine lv_iload_n hx hb dX2_bound_5 rfl (lv_at hl 2 rfl) ?_
    refine lv_iconst (v := nI 1) hx hb dX2_bound_6 (by decide) ?_
    refine lv_sipush (v := nI 1000) hx hb dX2_bound_7 (by decide) ?_
    refine kcallS (rest := []) F hA hI (mc_in l _ _ _ _) kgX2_57 hl.1 rfl rfl (Nat.le_of_ble_eq_true rfl) dX2_bound_10 ⟨Nat.le_of_ble_eq_true rfl, Nat.le_of_ble_eq_true rfl⟩ ⟨Nat.le_of_ble_eq_true rfl, Nat.le_of_ble_eq_true rfl⟩ (fun vq uq H locs hp hI => ?_)
    obtain ⟨rfl, hu⟩ := hp
    rw [hu] at hI
    clear hu
    refine kstk (b := .int _ :: []) rfl ?_
    refine lv_if_eq (tgt := 34) hx hb dX2_bound_13 (by decide) (fun c13 => absurd c13 ((fun q => by rw [bI_z, g1] at q; cases q))) (fun c13 => ?_)
    refine lv_iload_n hx hb dX2_bound_16 rfl (lv_at hl 1 rfl) ?_
    refine lv_iconst (v := nI 0) hx hb dX2_bound_17 (by decide) ?_
    refine lv_iload_n hx hb dX2_bound_18 rfl (lv_at hl 2 rfl) ?_
    refine kcallS (rest := []) F hA hI (mc_in l _ _ _ _) kgX2_57 hl.1 rfl rfl (Nat.le_of_ble_eq_true rfl) dX2_bound_19 ⟨Nat.le_of_ble_eq_true rfl, Nat.le_of_ble_eq_true rfl⟩ ⟨Nat.le_of_ble_eq_true rfl, Nat.le_of_ble_eq_true rfl⟩ (fun vq uq H locs hp hI => ?_)
    obtain ⟨rfl, hu⟩ := hp
    rw [hu] at hI
    clear hu
    refine kstk (b := .int _ :: []) rfl ?_
    refine lv_if_eq (tgt := 34) hx hb dX2_bound_22 (by decide) (fun c22 => absurd c22 ((fun q => by rw [bI_z, g2] at q; cases q))) (fun c22 => ?_)
    refine lv_iload_n hx hb dX2_bound_25 rfl (lv_at hl 3 rfl) ?_
    refine lv_iconst (v := nI 0) hx hb dX2_bound_26 (by decide) ?_
    refine lv_iconst (v := nI 1) hx hb dX2_bound_27 (by decide) ?_
    refine kcallS (rest := []) F hA hI (mc_in l _ _ _ _) kgX2_57 hl.1 rfl rfl (Nat.le_of_ble_eq_true rfl) dX2_bound_28 ⟨Nat.le_of_ble_eq_true rfl, Nat.le_of_ble_eq_true rfl⟩ ⟨Nat.le_of_ble_eq_true rfl, Nat.le_of_ble_eq_true rfl⟩ (fun vq uq H locs hp hI => ?_)
    obtain ⟨rfl, hu⟩ := hp
    rw [hu] at hI
    clear hu
    refine kstk (b := .int _ :: []) rfl ?_
    refine lv_if_ne (tgt := 36) hx hb dX2_bound_31 (by decide) (fun c31 => ?_) (fun c31 => absurd c31 ((fun q => by rw [bI_z, g3] at q; cases q)))
    refine lv_aload_n hx hb dX2_bound_36 rfl (lv_at hl 0 rfl) ?_
    refine m_get F hI 17 (by decide) rfl flX2_50 dX2_bound_37 ?_
    refine lv_bipush (v := nI 10) hx hb dX2_bound_40 (by decide) ?_
    refine m_ald F hI  13 (show 10 < 13 by omega) rfl dX2_bound_42 ?_
    refine ktop (y := nI (T)) (by exact h10) ?_
    refine lv_if_ne (tgt := 49) hx hb dX2_bound_43 (by decide) (fun c43 => absurd c43 ((fun q => q (zT.mpr hT0)))) (fun c43 => ?_)
    refine lv_bipush (v := -9) hx hb dX2_bound_46 (by decide) ?_
    exact kret_i F hI dX2_bound_48 (⟨by simp [hT0], rfl⟩)
  refine lv_aload_n hx hb dX2_bound_0 rfl (lv_at hl 0 rfl) ?_
  refine lv_iconst (v := nI 0) hx hb dX2_bound_1 (by decide) ?_
  refine m_putTh F hI flX2_53 dX2_bound_2 (fun H locs hI => ?_)
  refine lv_iload_n hx hb dX2_bound_5 rfl (lv_at hl 2 rfl) ?_
  refine lv_iconst (v := nI 1) hx hb dX2_bound_6 (by decide) ?_
  refine lv_sipush (v := nI 1000) hx hb dX2_bound_7 (by decide) ?_
  refine kcallS (rest := []) F hA hI (mc_in l _ _ _ _) kgX2_57 hl.1 rfl rfl (Nat.le_of_ble_eq_true rfl) dX2_bound_10 ⟨Nat.le_of_ble_eq_true rfl, Nat.le_of_ble_eq_true rfl⟩ ⟨Nat.le_of_ble_eq_true rfl, Nat.le_of_ble_eq_true rfl⟩ (fun vq uq H locs hp hI => ?_)
  obtain ⟨rfl, hu⟩ := hp
  rw [hu] at hI
  clear hu
  refine kstk (b := .int _ :: []) rfl ?_
  refine lv_if_eq (tgt := 34) hx hb dX2_bound_13 (by decide) (fun c13 => absurd c13 ((fun q => by rw [bI_z, g1] at q; cases q))) (fun c13 => ?_)
  refine lv_iload_n hx hb dX2_bound_16 rfl (lv_at hl 1 rfl) ?_
  refine lv_iconst (v := nI 0) hx hb dX2_bound_17 (by decide) ?_
  refine lv_iload_n hx hb dX2_bound_18 rfl (lv_at hl 2 rfl) ?_
  refine kcallS (rest := []) F hA hI (mc_in l _ _ _ _) kgX2_57 hl.1 rfl rfl (Nat.le_of_ble_eq_true rfl) dX2_bound_19 ⟨Nat.le_of_ble_eq_true rfl, Nat.le_of_ble_eq_true rfl⟩ ⟨Nat.le_of_ble_eq_true rfl, Nat.le_of_ble_eq_true rfl⟩ (fun vq uq H locs hp hI => ?_)
  obtain ⟨rfl, hu⟩ := hp
  rw [hu] at hI
  clear hu
  refine kstk (b := .int _ :: []) rfl ?_
  refine lv_if_eq (tgt := 34) hx hb dX2_bound_22 (by decide) (fun c22 => absurd c22 ((fun q => by rw [bI_z, g2] at q; cases q))) (fun c22 => ?_)
  refine lv_iload_n hx hb dX2_bound_25 rfl (lv_at hl 3 rfl) ?_
  refine lv_iconst (v := nI 0) hx hb dX2_bound_26 (by decide) ?_
  refine lv_iconst (v := nI 1) hx hb dX2_bound_27 (by decide) ?_
  refine kcallS (rest := []) F hA hI (mc_in l _ _ _ _) kgX2_57 hl.1 rfl rfl (Nat.le_of_ble_eq_true rfl) dX2_bound_28 ⟨Nat.le_of_ble_eq_true rfl, Nat.le_of_ble_eq_true rfl⟩ ⟨Nat.le_of_ble_eq_true rfl, Nat.le_of_ble_eq_true rfl⟩ (fun vq uq H locs hp hI => ?_)
  obtain ⟨rfl, hu⟩ := hp
  rw [hu] at hI
  clear hu
  refine kstk (b := .int _ :: []) rfl ?_
  refine lv_if_ne (tgt := 36) hx hb dX2_bound_31 (by decide) (fun c31 => ?_) (fun c31 => absurd c31 ((fun q => by rw [bI_z, g3] at q; cases q)))
  refine lv_aload_n hx hb dX2_bound_36 rfl (lv_at hl 0 rfl) ?_
  refine m_get F hI 17 (by decide) rfl flX2_50 dX2_bound_37 ?_
  refine lv_bipush (v := nI 10) hx hb dX2_bound_40 (by decide) ?_
  refine m_ald F hI  13 (show 10 < 13 by omega) rfl dX2_bound_42 ?_
  refine ktop (y := nI (T)) (by exact h10) ?_
  refine lv_if_ne (tgt := 49) hx hb dX2_bound_43 (by decide) (fun c43 => ?_) (fun c43 => absurd c43 ((fun q => hT0 (zT.mp q))))
  refine lv_iconst (v := nI 0) hx hb dX2_bound_49 (by decide) ?_
  refine lv_istore (lv' := [(4, .int _), (0, .ref _), (1, .int _), (2, .int _), (3, .int _)]) hx hb dX2_bound_50 hl (by decide) rfl (fun ls hl => ?_)
  refine lv_aload_n hx hb dX2_bound_52 rfl (lv_at hl 1 rfl) ?_
  refine m_get F hI 16 (by decide) rfl flX2_47 dX2_bound_53 ?_
  refine lv_iconst (v := nI 0) hx hb dX2_bound_56 (by decide) ?_
  refine m_ald F hI  12 (show 0 < 14 by omega) rfl dX2_bound_57 ?_
  refine ktop (y := nI (sN 0)) (by exact h12 0 (by decide)) ?_
  refine lv_i2l hx hb dX2_bound_58 rfl ?_
  refine ktopl (y := lN (sumN sN (0 + 1))) (by rw [nI_l (show sN 0 < 2 ^ 31 by have := sumN_le sN (show 1 ≤ 14 by decide); have e : sumN sN 1 = 0 + sN 0 := rfl; omega)]; exact congrArg lN (Nat.zero_add _).symm) ?_
  refine lv_lstore (lv' := [(5, .long _), (4, .int _), (0, .ref _), (1, .int _), (2, .int _), (3, .int _)]) hx hb dX2_bound_59 hl (by decide) rfl (fun ls hl => ?_)
  refine wloop (σ := Nat × Nat) (fun x => x.1) (fun x H locs ls => x.2 + x.1 = 13 ∧ bndL sN T a b x.1 x.2 = bnd sN T a b ∧ kI D (mw g K) A s.heap st H locs ∧ lv_has ls 7 [(5, .long (lN (sumN sN (x.2 + 1)))), (4, .int (nI x.2)), (0, .ref (g 0)), (1, .int (nI a)), (2, .int (nI b)), (3, .int (nI w))]) ?_ (13, 0) _ _ _ ⟨rfl, rfl, hI, lv_sub hl [0, 1, 2, 3, 4, 5] rfl⟩
  rintro ⟨f, j⟩ H locs ls ⟨hk, he, hI, hl⟩ ih
  dsimp only at hk he hI hl ih
  have hle := sumN_le sN (show j + 1 ≤ 14 by omega)
  have hsb : sumN sN (j + 1) * b < 2 ^ 63 := Nat.lt_of_le_of_lt (Nat.mul_le_mul (show sumN sN (j + 1) ≤ 2 ^ 22 by omega) hb2) (by decide)
  refine lv_lload hx hb dX2_bound_61 (lv_at hl 0 rfl) ?_
  refine lv_iload_n hx hb dX2_bound_63 rfl (lv_at hl 4 rfl) ?_
  refine lv_i2l hx hb dX2_bound_64 rfl ?_
  refine ktopl (y := lN (b)) (by exact nI_l (by omega)) ?_
  refine lv_lmul hx hb dX2_bound_65 ?_
  refine ktopl (y := lN (sumN sN (j + 1) * b)) (by exact lN_mul _ _) ?_
  refine lv_iload_n hx hb dX2_bound_66 rfl (lv_at hl 3 rfl) ?_
  refine lv_i2l hx hb dX2_bound_67 rfl ?_
  refine ktopl (y := lN (a)) (by exact nI_l (by omega)) ?_
  refine lv_aload_n hx hb dX2_bound_68 rfl (lv_at hl 2 rfl) ?_
  refine m_get F hI 17 (by decide) rfl flX2_50 dX2_bound_69 ?_
  refine lv_bipush (v := nI 10) hx hb dX2_bound_72 (by decide) ?_
  refine m_ald F hI  13 (show 10 < 13 by omega) rfl dX2_bound_74 ?_
  refine ktop (y := nI (T)) (by exact h10) ?_
  refine lv_i2l hx hb dX2_bound_75 rfl ?_
  refine ktopl (y := lN (T)) (by exact nI_l (by omega)) ?_
  refine lv_lmul hx hb dX2_bound_76 ?_
  refine ktopl (y := lN (a * T)) (by exact lN_mul _ _) ?_
  refine W.lcmp hx hb dX2_bound_77 ?_
  refine lv_if_ge (tgt := 100) hx hb dX2_bound_78 (by decide) (fun c78 => ?_) (fun c78 => ?_)
  ·
    rw [lg_cmp_ge, pk_lLE haT hsb] at c78
    have hj : j = bnd sN T a b := by
      rw [← he]
      cases f with
      | zero => rfl
      | succ f => simp [bndL, show ¬ sumN sN (j + 1) * b < a * T by omega]
    have zj : nI j = 0 ↔ j = 0 := nI_eq (b := 0) (by omega) (by decide)
    refine lv_iload_n hx hb dX2_bound_100 rfl (lv_at hl 5 rfl) ?_
    refine lv_iconst (v := nI 1) hx hb dX2_bound_101 (by decide) ?_
    refine lv_icmp_ne (tgt := 112) hx hb dX2_bound_102 (by decide) (fun c102 => ?_) (fun c102 => ?_)
    ·
      rw [nI_eq (by omega) (by omega)] at c102
      refine lv_iload hx hb dX2_bound_112 (lv_at hl 1 rfl) ?_
      refine lv_if_ne (tgt := 121) hx hb dX2_bound_114 (by decide) (fun c114 => ?_) (fun c114 => ?_)
      ·
        rw [zj] at c114
        refine lv_iconst (v := nI 1) hx hb dX2_bound_121 (by decide) ?_
        refine lv_iload hx hb dX2_bound_122 (lv_at hl 1 rfl) ?_
        refine lv_iconst (v := nI 1) hx hb dX2_bound_124 (by decide) ?_
        refine lv_isub hx hb dX2_bound_125 ?_
        refine lv_ishl hx hb dX2_bound_126 ?_
        exact kret_i F hI dX2_bound_127 (⟨by simp [hT0, bval, ← hj, c102, c114], rfl⟩)
      ·
        rw [zj] at c114
        refine lv_iconst (v := nI 0) hx hb dX2_bound_117 (by decide) ?_
        refine lv_goto (tgt := 127) hx hb dX2_bound_118 (by decide) ?_
        exact kret_i F hI dX2_bound_127 (⟨by simp [hT0, bval, ← hj, c102, c114], rfl⟩)
    ·
      rw [nI_eq (by omega) (by omega)] at c102
      refine lv_iconst (v := nI 1) hx hb dX2_bound_105 (by decide) ?_
      refine lv_iload hx hb dX2_bound_106 (lv_at hl 1 rfl) ?_
      refine lv_ishl hx hb dX2_bound_108 ?_
      refine lv_goto (tgt := 127) hx hb dX2_bound_109 (by decide) ?_
      exact kret_i F hI dX2_bound_127 (⟨by simp [hT0, bval, ← hj, c102], rfl⟩)
  ·
    rw [lg_cmp_ge, pk_lLE haT hsb] at c78
    obtain ⟨f, rfl⟩ : ∃ f', f = f' + 1 := by
      cases f with
      | zero =>
        exfalso
        have hj : j = 13 := by omega
        subst hj
        apply c78
        rw [hS, Nat.mul_comm]
        exact Nat.mul_le_mul_left T ha
      | succ f => exact ⟨f, rfl⟩
    refine lv_iinc (v := nI (j + 1)) (lv' := [(4, .int _), (5, .long _), (0, .ref _), (1, .int _), (2, .int _), (3, .int _)]) hx hb dX2_bound_81 hl (k := 1) rfl (kinc _ 1) (by decide) rfl (fun ls hl => ?_)
    refine lv_lload hx hb dX2_bound_84 (lv_at hl 1 rfl) ?_
    refine lv_aload_n hx hb dX2_bound_86 rfl (lv_at hl 2 rfl) ?_
    refine m_get F hI 16 (by decide) rfl flX2_47 dX2_bound_87 ?_
    refine lv_iload hx hb dX2_bound_90 (lv_at hl 0 rfl) ?_
    refine m_ald F hI  12 (show (j + 1) < 14 by omega) rfl dX2_bound_92 ?_
    refine ktop (y := nI (sN (j + 1))) (by exact h12 (j + 1) (by omega)) ?_
    have hj1 := sumN_le sN (show j + 1 + 1 ≤ 14 by omega)
    have e1 : sumN sN (j + 1 + 1) = sumN sN (j + 1) + sN (j + 1) := rfl
    refine lv_i2l hx hb dX2_bound_93 rfl ?_
    refine ktopl (y := lN (sN (j + 1))) (by exact nI_l (by omega)) ?_
    refine lv_ladd hx hb dX2_bound_94 ?_
    refine ktopl (y := lN (sumN sN (j + 1 + 1))) (by exact lN_add _ _) ?_
    refine lv_lstore (lv' := [(5, .long _), (4, .int _), (0, .ref _), (1, .int _), (2, .int _), (3, .int _)]) hx hb dX2_bound_95 hl (by decide) rfl (fun ls hl => ?_)
    refine lv_goto (tgt := 61) hx hb dX2_bound_97 (by decide) ?_
    exact ih (f, j + 1) _ _ _ (by show f < f + 1; omega) ⟨by show j + 1 + f = _; omega, by rw [← he]; simp [bndL, show sumN sN (j + 1) * b < a * T by omega], hI, lv_sub hl [0, 1, 2, 3, 4, 5] rfl⟩
end MC5
