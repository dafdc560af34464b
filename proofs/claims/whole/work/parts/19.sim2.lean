/-! a decision, on both sides -/
theorem RW1_c {x x' : XS} {m m' : MS} {sr sr' : Nat → Nat} {n a : Nat} (h : RW1 x m sr n a) (h1 : ∀ b, b ∈ x.2.2.2.1 → b ∈ x'.2.2.2.1) (h2 : sr' a = sr a) (h3 : ∀ f, f < 7 ∨ f = 10 ∨ f = 11 → cf x' a f = cf x a f) (h4 : ∀ j, j = 3 ∨ j = 4 ∨ j = 5 ∨ j = 6 ∨ j = 7 ∨ j = 2 → m'.1 j n = m.1 j n) (h5 : m_up m' = m_up m) : RW1 x' m' sr' n a := by
  obtain ⟨q1, q2, q3, q4, q5, q6, q7, q8, q9, q10, q11, q12, q13, q14, q15⟩ := h
  unfold RW1
  rw [h2, h5, h4 2 (by omega), h4 3 (by omega), h4 4 (by omega), h4 5 (by omega), h4 6 (by omega), h4 7 (by omega), h3 0 (by omega), h3 1 (by omega), h3 2 (by omega), h3 3 (by omega), h3 4 (by omega), h3 5 (by omega), h3 6 (by omega), h3 10 (by omega), h3 11 (by omega)]
  exact ⟨h1 a q1, q2, q3, q4, q5, q6, q7, q8, q9, q10, q11, q12, q13, q14, q15⟩
theorem RD1_c {x x' : XS} {m m' : MS} {sr sr' : Nat → Nat} {T T' n a : Nat} (h : RD1 x m sr T n a) (h1 : ∀ b, b ∈ x.2.2.2.1 → b ∈ x'.2.2.2.1) (h2 : sr' a = sr a) (hT : T ≤ T') (h3 : ∀ f, f = 0 ∨ f = 7 ∨ f = 10 ∨ f = 11 → cf x' a f = cf x a f) (h4 : m'.1 8 n = m.1 8 n) (h5 : m'.1 9 n = m.1 9 n) (h6 : ∀ i, i < m.2.2.2 → x.2.1 2 i = some a → ∃ j, j < m'.2.2.2 ∧ x'.2.1 2 j = some a) : RD1 x' m' sr' T' n a := by
  obtain ⟨q1, q2, q3, q4, q5, q6⟩ := h
  unfold RD1
  rw [h2, h4, h5, h3 0 (by omega), h3 7 (by omega), h3 10 (by omega), h3 11 (by omega)]
  refine ⟨h1 a q1, q2, by omega, q4, q5, ?_⟩
  rcases q6 with q | ⟨i, hi, q⟩
  · exact Or.inl q
  · exact Or.inr (h6 i hi q)
theorem RK1_c {x x' : XS} {m m' : MS} {sr sr' : Nat → Nat} {T T' i i' a : Nat} (h : RK1 x m sr T i a) (h1 : ∀ b, b ∈ x.2.2.2.1 → b ∈ x'.2.2.2.1) (h2 : sr' a = sr a) (hT : T ≤ T') (h3 : ∀ f, f < 12 → cf x' a f = cf x a f) (h4 : ∀ w, w < 8 → m'.1 10 (8 * i' + w) = m.1 10 (8 * i + w)) : RK1 x' m' sr' T' i' a := by
  obtain ⟨q1, q2, q3, q4, q5, q6, q7, q8, q9, q10, q11, q12, q13, q14, q15, q16⟩ := h
  unfold RK1
  have e0 := h4 0 (by omega)
  simp only [Nat.add_zero] at e0
  rw [h2, e0, h4 1 (by omega), h4 2 (by omega), h4 3 (by omega), h4 4 (by omega), h4 5 (by omega), h4 6 (by omega), h4 7 (by omega), h3 0 (by omega), h3 1 (by omega), h3 4 (by omega), h3 5 (by omega), h3 7 (by omega), h3 8 (by omega), h3 9 (by omega), h3 10 (by omega), h3 11 (by omega)]
  exact ⟨h1 a q1, q2, by omega, q4, q5, q6, q7, q8, q9, q10, q11, q12, q13, q14, q15, q16⟩
/-- the class's state when the decision's numbers are in, and nothing kept yet -/
def xD (x : XS) (a n sh z : Nat) (tn : Bool) : XS := x_d2 (xc (x_weigh (x_d1 x a n tn) sh (nI z) tn).2 a 8 (x_weigh (x_d1 x a n tn) sh (nI z) tn).1) sh z tn
def mD (m : MS) (n sh z : Nat) (tn : Bool) : MS := m_decA (m_weight m sh (nI z) tn).2 n sh z tn
theorem xinc_2 {x : XS} {k i : Nat} : (xinc x k i).2 = x.2 := rfl
theorem x_d2_k {x : XS} {sh z : Nat} {tn : Bool} : (x_d2 x sh z tn).1 0 = x.1 0 ∧ (x_d2 x sh z tn).1 1 = x.1 1 ∧ (x_d2 x sh z tn).1 3 = upd (x.1 3) (stp z) (x.1 3 (stp z) + nI 1) ∧ (∀ w, (x_d2 x sh z tn).1 2 w = if w = 10 then x.1 2 10 + nI 1 else if w = 11 then x.1 2 11 + bI tn else x.1 2 w) ∧ ∀ s w, (x_d2 x sh z tn).1 (4 + s) w = if s = sh ∧ w = 0 then x.1 (4 + sh) 0 + nI 1 else x.1 (4 + s) w := by
  have e2 : ∀ w, (xinc (xinc (xinc x (4 + sh) 0) 3 (stp z)) 2 10).1 2 w = if w = 10 then x.1 2 10 + nI 1 else x.1 2 w := by
    intro w
    rw [xinc, xset_a, xinc, xset_k (by decide), xinc, xset_k (by omega)]
    by_cases e : w = 10
    · subst e; rw [pk_us, if_pos rfl]
    · rw [pk_un e, if_neg e]
  have e3 : (xinc (xinc (xinc x (4 + sh) 0) 3 (stp z)) 2 10).1 3 = upd (x.1 3) (stp z) (x.1 3 (stp z) + nI 1) := by
    rw [xinc, xset_k (by decide), xinc, xset_a, xinc, xset_k (by omega)]
  have et : ∀ s w, (xinc (xinc (xinc x (4 + sh) 0) 3 (stp z)) 2 10).1 (4 + s) w = if s = sh ∧ w = 0 then x.1 (4 + sh) 0 + nI 1 else x.1 (4 + s) w := by
    intro s w
    rw [xinc, xset_k (by omega), xinc, xset_k (by omega), xinc]
    by_cases e : s = sh
    · subst e
      rw [xset_a]
      by_cases e1 : w = 0
      · subst e1; rw [pk_us, if_pos ⟨rfl, rfl⟩]
      · rw [pk_un e1, if_neg (fun q => e1 q.2)]
    · rw [xset_k (by omega), if_neg (fun q => e q.1)]
  have e0 : (xinc (xinc (xinc x (4 + sh) 0) 3 (stp z)) 2 10).1 0 = x.1 0 := by rw [xinc, xset_k (by decide), xinc, xset_k (by decide), xinc, xset_k (by omega)]
  have e1 : (xinc (xinc (xinc x (4 + sh) 0) 3 (stp z)) 2 10).1 1 = x.1 1 := by rw [xinc, xset_k (by decide), xinc, xset_k (by decide), xinc, xset_k (by omega)]
  unfold x_d2
  generalize xinc (xinc (xinc x (4 + sh) 0) 3 (stp z)) 2 10 = u at e0 e1 e2 e3 et
  cases tn
  · refine ⟨e0, e1, e3, fun w => ?_, et⟩
    show u.1 2 w = _
    rw [e2]
    by_cases q : w = 10
    · rw [if_pos q, if_pos q]
    · rw [if_neg q, if_neg q]
      by_cases q1 : w = 11
      · rw [if_pos q1, q1, bI_f]
        show x.1 2 11 = x.1 2 11 + 0
        rw [Int32.add_zero]
      · rw [if_neg q1]
  · have ex : x_tn u true = xinc u 2 11 := rfl
    rw [ex]
    refine ⟨by rw [xinc, xset_k (by decide)]; exact e0, by rw [xinc, xset_k (by decide)]; exact e1, by rw [xinc, xset_k (by decide)]; exact e3, fun w => ?_, fun s w => by rw [xinc, xset_k (by omega)]; exact et s w⟩
    rw [xinc, xset_a]
    by_cases q1 : w = 11
    · rw [q1, pk_us, e2, if_neg (by decide), if_neg (by decide), if_pos rfl, bI_t]
    · rw [pk_un q1, e2, if_neg q1]
theorem m_decA_x {m : MS} {n sh z : Nat} {tn : Bool} : (mD m n sh z tn).1 8 = upd (m.1 8) n (m.1 13 10 + nI 1) ∧ (mD m n sh z tn).1 9 = upd (m.1 9) n m.2.1 ∧ (mD m n sh z tn).1 11 = upd ((m_weight m sh (nI z) tn).2.1 11) (7 * sh) ((m_weight m sh (nI z) tn).2.1 11 (7 * sh) + nI 1) ∧ (mD m n sh z tn).1 12 = upd (m.1 12) (stp z) (m.1 12 (stp z) + nI 1) ∧ (∀ w, (mD m n sh z tn).1 13 w = if w = 10 then m.1 13 10 + nI 1 else if w = 11 then m.1 13 11 + bI tn else m.1 13 w) ∧ (mD m n sh z tn).2.1 = m.2.1 ∧ (mD m n sh z tn).2.2.1 = (m_weight m sh (nI z) tn).2.2.2.1 ∧ (mD m n sh z tn).2.2.2 = m.2.2.2 ∧ (mD m n sh z tn).1 2 = upd (m.1 2) n (-9) ∧ ∀ k, k = 0 ∨ k = 1 ∨ k = 3 ∨ k = 4 ∨ k = 5 ∨ k = 6 ∨ k = 7 ∨ k = 10 → (mD m n sh z tn).1 k = m.1 k := by
  unfold mD
  have hw := m_only_weight m sh (nI z) tn
  generalize m_weight m sh (nI z) tn = w at hw
  have h13 := hw.1 13 (by decide)
  have c13 : ∀ q, (madd (m_inc (m_inc (m_inc w.2 11 (7 * sh)) 12 (stp z)) 13 10) 13 11 (bI tn)).1 13 q = if q = 10 then m.1 13 10 + nI 1 else if q = 11 then m.1 13 11 + bI tn else m.1 13 q := by
    intro q
    have e1 : ∀ q, (m_inc (m_inc (m_inc w.2 11 (7 * sh)) 12 (stp z)) 13 10).1 13 q = if q = 10 then m.1 13 10 + nI 1 else m.1 13 q := by
      intro q
      rw [m_inc, mset_a, m_inc, mset_k (by decide), m_inc, mset_k (by decide), h13]
      by_cases e : q = 10
      · subst e; rw [pk_us, if_pos rfl]
      · rw [pk_un e, if_neg e]
    rw [madd, mset_a, e1 11, if_neg (by decide)]
    by_cases e : q = 11
    · subst e; rw [pk_us, if_neg (by decide), if_pos rfl]
    · rw [pk_un e, e1 q, if_neg e]
  refine ⟨?_, ?_, ?_, ?_, ?_, ?_, ?_, ?_, ?_, ?_⟩
  · unfold m_decA mnw
    rw [mset_k (by decide), mcp, mset_a, mset_k (by decide), mset_k (by decide), madd, mset_k (by decide), m_inc, mset_k (by decide), m_inc, mset_k (by decide), m_inc, mset_k (by decide), hw.1 8 (by decide)]
    have := c13 10
    rw [if_pos rfl] at this
    rw [← this]
    rfl
  · unfold m_decA mnw
    rw [mset_a, mcp, mset_k (by decide), mset_k (by decide), madd, mset_k (by decide), m_inc, mset_k (by decide), m_inc, mset_k (by decide), m_inc, mset_k (by decide), hw.1 9 (by decide)]
    show upd (m.1 9) n w.2.2.1 = _
    rw [hw.2.1]
  · unfold m_decA mnw
    rw [mset_k (by decide), mcp, mset_k (by decide), mset_k (by decide), madd, mset_k (by decide), m_inc, mset_k (by decide), m_inc, mset_k (by decide), m_inc, mset_a]
  · unfold m_decA mnw
    rw [mset_k (by decide), mcp, mset_k (by decide), mset_k (by decide), madd, mset_k (by decide), m_inc, mset_k (by decide), m_inc, mset_a, m_inc, mset_k (by decide), hw.1 12 (by decide)]
  · intro q
    unfold m_decA mnw
    rw [mset_k (by decide), mcp, mset_k (by decide), mset_k (by decide)]
    exact c13 q
  · exact hw.2.1
  · rfl
  · exact hw.2.2
  · rw [m_decA_2, hw.1 2 (by decide)]
  · intro k hk
    by_cases e : k = 10
    · subst e
      unfold m_decA mnw
      rw [mset_k (by decide), mcp, mset_k (by decide), mset_k (by decide), madd, mset_k (by decide), m_inc, mset_k (by decide), m_inc, mset_k (by decide), m_inc, mset_k (by decide), hw.1 10 (by decide)]
    · rw [m_decA_k _ _ _ _ _ (by omega) (by omega) (by omega) (by omega) (by omega) (by omega), hw.1 k (by omega)]
theorem xD_x {x : XS} {a n sh z : Nat} {tn : Bool} (hs : sh < 5) : (xD x a n sh z tn).1 0 = x.1 0 ∧ (xD x a n sh z tn).1 1 = x.1 1 ∧ (xD x a n sh z tn).1 3 = upd (x.1 3) (stp z) (x.1 3 (stp z) + nI 1) ∧ (∀ w, (xD x a n sh z tn).1 2 w = if w = 10 then x.1 2 10 + nI 1 else if w = 11 then x.1 2 11 + bI tn else if w = 1 then x.1 2 1 - nI 1 else x.1 2 w) ∧ (∀ s w, (xD x a n sh z tn).1 (4 + s) w = if s = sh ∧ w = 0 then (x_weigh (x_d1 x a n tn) sh (nI z) tn).2.1 (4 + sh) 0 + nI 1 else (x_weigh (x_d1 x a n tn) sh (nI z) tn).2.1 (4 + s) w) ∧ (xD x a n sh z tn).2.1 0 = va_up (x.2.1 0) n none ∧ (xD x a n sh z tn).2.1 1 = va_up (x.2.1 1) n (some a) ∧ (xD x a n sh z tn).2.1 2 = x.2.1 2 ∧ (xD x a n sh z tn).2.2.1 = (x_weigh (x_d1 x a n tn) sh (nI z) tn).2.2.2.1 ∧ (xD x a n sh z tn).2.2.2.1 = x.2.2.2.1 ∧ (∀ b f, b ≠ a → cf (xD x a n sh z tn) b f = cf x b f) ∧ (∀ f, f < 7 ∨ 9 < f → cf (xD x a n sh z tn) a f = cf x a f) ∧ cf (xD x a n sh z tn) a 7 = x.1 2 0 ∧ cf (xD x a n sh z tn) a 8 = (x_weigh (x_d1 x a n tn) sh (nI z) tn).1 ∧ cf (xD x a n sh z tn) a 9 = bI tn := by
  unfold xD
  have hw := x_only_weigh (x_d1 x a n tn) sh (nI z) tn
  generalize x_weigh (x_d1 x a n tn) sh (nI z) tn = w at hw
  have hk := x_d2_k (x := xc w.2 a 8 w.1) (sh := sh) (z := z) (tn := tn)
  have h2 := x_d2_2 (xc w.2 a 8 w.1) sh z tn
  generalize x_d2 (xc w.2 a 8 w.1) sh z tn = u at hk h2
  have d1 : ∀ w, (x_d1 x a n tn).1 2 w = if w = 1 then x.1 2 1 - nI 1 else x.1 2 w := by
    intro w
    show (x_stop x n).1 2 w = _
    rw [x_stop, xsub, xset_a]
    by_cases e : w = 1
    · subst e; rw [pk_us, if_pos rfl]; rfl
    · rw [pk_un e, if_neg e]; rfl
  have dk : ∀ k, k ≠ 2 → (x_d1 x a n tn).1 k = x.1 k := by
    intro k hk2
    show (x_stop x n).1 k = _
    rw [x_stop, xsub, xset_k hk2]
    rfl
  have dc : ∀ b f, cf (x_d1 x a n tn) b f = if b = a then (if f = 7 then x.1 2 0 else if f = 9 then bI tn else cf x a f) else cf x b f := by
    intro b f
    rw [x_d1, xcnow]
    by_cases e : b = a
    · subst e
      rw [if_pos rfl]
      by_cases e7 : f = 7
      · subst e7
        rw [cf_eq, if_pos rfl]
        have := d1 0
        rw [if_neg (by decide)] at this
        exact this
      · rw [cf_ne e7, if_neg e7]
        by_cases e9 : f = 9
        · subst e9; rw [cf_eq, if_pos rfl]
        · rw [cf_ne e9, if_neg e9]; rfl
    · rw [cf_b e, cf_b e, if_neg e]; rfl
  have uc : ∀ b f, cf u b f = if b = a ∧ f = 8 then w.1 else cf (x_d1 x a n tn) b f := by
    intro b f
    have : cf u b f = cf (xc w.2 a 8 w.1) b f := by unfold cf; rw [h2]
    rw [this]
    have e1 : cf w.2 b f = cf (x_d1 x a n tn) b f := by unfold cf; rw [hw.2.1]
    by_cases e : b = a
    · subst e
      by_cases e8 : f = 8
      · subst e8; rw [cf_eq, if_pos ⟨rfl, rfl⟩]
      · rw [cf_ne e8, if_neg (fun q => e8 q.2), e1]
    · rw [cf_b e, if_neg (fun q => e q.1), e1]
  refine ⟨?_, ?_, ?_, ?_, hk.2.2.2.2, ?_, ?_, ?_, ?_, ?_, ?_, ?_, ?_, ?_, ?_⟩
  · rw [hk.1]; show w.2.1 0 = _; rw [hw.2.2 0 (by decide), dk 0 (by decide)]
  · rw [hk.2.1]; show w.2.1 1 = _; rw [hw.2.2 1 (by decide), dk 1 (by decide)]
  · rw [hk.2.2.1]; show upd (w.2.1 3) _ (w.2.1 3 _ + _) = _; rw [hw.2.2 3 (by decide), dk 3 (by decide)]
  · intro q
    rw [hk.2.2.2.1]
    show (if q = 10 then w.2.1 2 10 + nI 1 else if q = 11 then w.2.1 2 11 + bI tn else w.2.1 2 q) = _
    have e10 := d1 10
    have e11 := d1 11
    rw [if_neg (by decide)] at e10 e11
    rw [hw.2.2 2 (by decide), e10, e11, d1 q]
  · rw [h2]; show w.2.2.1 0 = _; rw [hw.1]; rfl
  · rw [h2]; show w.2.2.1 1 = _; rw [hw.1]; rfl
  · rw [h2]; show w.2.2.1 2 = _; rw [hw.1]; rfl
  · rw [h2]; rfl
  · rw [h2]; show w.2.2.2.2.1 = _; rw [hw.2.1]; rfl
  · intro b f hb
    rw [uc, if_neg (fun q => hb q.1), dc, if_neg hb]
  · intro f hf
    rw [uc, if_neg (by omega), dc, if_pos rfl, if_neg (by omega), if_neg (by omega)]
  · rw [uc, if_neg (by omega), dc, if_pos rfl, if_pos rfl]
  · rw [uc, if_pos ⟨rfl, rfl⟩]
  · rw [uc, if_neg (by omega), dc, if_pos rfl, if_neg (by decide), if_pos rfl]
