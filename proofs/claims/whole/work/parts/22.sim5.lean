/-! ticks, and what is only asked, on both sides -/
theorem RR_now {x : XS} {m : MS} {sr : Nat → Nat} {T : Nat} (h : RR x m sr T) : RR (xinc x 2 0) (mnow m (m.2.1 + nI 1)) sr T := by
  obtain ⟨⟨a1, a2, ⟨b0, b1, b2, b3, b4, b5, b6⟩, a4, a5, a6⟩, hW, hD, hK, hJ, hS⟩ := h
  have x2 : ∀ w, w ≠ 0 → (xinc x 2 0).1 2 w = x.1 2 w := fun w hw => by rw [xinc, xset_a, pk_un hw]
  refine ⟨⟨a1, ⟨a2.1, fun s w q1 q2 => ?_, a2.2.2⟩, ⟨?_, ?_, b2, ?_, b4, ?_, ?_⟩, a4, a5, a6⟩, hW, hD, hK, hJ, hS⟩
  · rw [xinc, xset_k (by omega)]; exact a2.2.1 s w q1 q2
  · rw [xinc, xset_s, b0]; rfl
  · rw [x2 1 (by decide)]; exact b1
  · rw [x2 2 (by decide)]; exact b3
  · intro w q1 q2
    rw [x2 w (by omega)]; exact b5 w q1 q2
  · rw [x2 12 (by decide)]; exact b6
theorem RR_tkK {x : XS} {m : MS} {sr : Nat → Nat} {T n : Nat} (h : RR x m sr T) (hn : n < 100) (hT : T < 2 ^ 30) : ∃ sr' T', RR (x_tkK x n) (m_tkK m n) sr' T' ∧ T' ≤ T + 1 ∧ (x_tkK x n).2.2.2.1 = x.2.2.2.1 := by
  unfold x_tkK m_tkK
  rcases h.2.1 n hn with ⟨q1, q2⟩ | ⟨a, q1, q2⟩
  · rw [q1, q2]
    dsimp only
    rw [if_neg (fun q => q.1 rfl)]
    exact ⟨sr, T, h, by omega, rfl⟩
  · rw [q1]
    dsimp only
    have e1 : x.1 2 0 = m.2.1 := h.1.2.2.1.1
    have e2 : cf x a 2 = m.1 7 n := q2.2.2.2.2.2.1
    have e3 : x.1 1 4 = m.1 1 4 := h.1.2.1.1 4 (by decide)
    have e4 : ¬ m.1 2 n = -9 := q2.2.2.2.2.2.2.2.2.2.2.2.2.1
    rw [e1, e2, e3]
    by_cases c : m.2.1 - m.1 7 n < m.1 1 4
    · rw [if_pos c, if_neg (fun q => q.2 c)]
      exact ⟨sr, T, h, by omega, rfl⟩
    · rw [if_neg c, if_pos ⟨e4, c⟩]
      obtain ⟨r1, r2⟩ := RR_dec true h hn hT q1
      exact ⟨_, _, r1, Nat.le_refl _, r2⟩
theorem RR_tkN : ∀ (f n : Nat) (x : XS) (m : MS) (sr : Nat → Nat) (T : Nat), n + f = 100 → RR x m sr T → T + f < 2 ^ 30 → ∃ sr' T', RR (x_tkN f n x) (m_tkN f n m) sr' T' ∧ T' ≤ T + f ∧ (x_tkN f n x).2.2.2.1 = x.2.2.2.1 := by
  intro f
  induction f with
  | zero => intro n x m sr T _ h _; exact ⟨sr, T, h, by omega, rfl⟩
  | succ f ih =>
    intro n x m sr T hn h hT
    obtain ⟨s1, T1, r1, r2, r3⟩ := RR_tkK (n := n) h (by omega) (by omega)
    obtain ⟨s2, T2, q1, q2, q3⟩ := ih (n + 1) _ _ s1 T1 (by omega) r1 (by omega)
    exact ⟨s2, T2, q1, by omega, q3.trans r3⟩
theorem RR_tk1 {x : XS} {m : MS} {sr : Nat → Nat} {T : Nat} (h : RR x m sr T) (hT : T + 100 < 2 ^ 30) : ∃ sr' T', RR (x_tk1 x) (m_tk1 m) sr' T' ∧ T' ≤ T + 100 ∧ (x_tk1 x).2.2.2.1 = x.2.2.2.1 := by
  unfold x_tk1 m_tk1
  exact RR_tkN 100 0 _ _ sr T (by decide) (RR_now h) hT
theorem m_tkL_s (f : Nat) (st : MS) : m_tkL (f + 1) st = m_tkL f (m_tk1 st) := by rw [m_tkL]
theorem RR_tkL : ∀ (f : Nat) (x : XS) (m : MS) (sr : Nat → Nat) (T : Nat), RR x m sr T → T + 100 * f < 2 ^ 30 → ∃ sr' T', RR (x_tkL f x) (m_tkL f m) sr' T' ∧ T' ≤ T + 100 * f ∧ (x_tkL f x).2.2.2.1 = x.2.2.2.1 := by
  intro f
  induction f with
  | zero => intro x m sr T h _; exact ⟨sr, T, h, by omega, rfl⟩
  | succ f ih =>
    intro x m sr T h hT
    obtain ⟨s1, T1, r1, r2, r3⟩ := RR_tk1 h (by omega)
    obtain ⟨s2, T2, q1, q2, q3⟩ := ih _ _ s1 T1 r1 (by omega)
    rw [x_tkL_s, m_tkL_s]
    exact ⟨s2, T2, q1, by omega, q3.trans r3⟩
theorem RR_xok {x : XS} {m : MS} {sr : Nat → Nat} {T : Nat} (h : RR x m sr T) : xokT x := by
  refine ⟨fun n hn a ha => ?_, m.2.2.2, h.1.2.2.1.2.2.2.2.1, h.1.2.2.1.2.2.2.1⟩
  obtain ⟨wL, wS, w0, ⟨sh, hs, wsh⟩, w4, w7, w3, wp, w5, w6, w10, w11, wn, wh, wPF⟩ := RW_at h.2.1 hn ha
  obtain ⟨z, hz, hz5⟩ := PF_z wPF
  exact ⟨wL, w0, sh, z, hs, hz, wsh, w5.trans hz5⟩
theorem RR_mok {x : XS} {m : MS} {sr : Nat → Nat} {T : Nat} (h : RR x m sr T) : mokT m := by
  refine ⟨fun n hn hk => ?_, h.1.2.2.1.2.2.2.2.1⟩
  rcases h.2.1 n hn with ⟨-, q⟩ | ⟨a, -, wL, wS, w0, ⟨sh, hs, wsh⟩, w4, w7, w3, wp, w5, w6, w10, w11, wn, wh, wPF⟩
  · exact absurd q hk
  · obtain ⟨z, hz, hz5⟩ := PF_z wPF
    exact ⟨sh, z, hs, hz, w4.symm.trans wsh, hz5⟩
theorem RR_xwt {x : XS} {m : MS} {sr : Nat → Nat} {T : Nat} (h : RR x m sr T) : xwt x := fun n hn a ha => ⟨(RW_at h.2.1 hn ha).1, (RW_at h.2.1 hn ha).2.2.1⟩
theorem RR_xd {x : XS} {m : MS} {sr : Nat → Nat} {T n : Nat} (h : RR x m sr T) (hn : n < 100) : ∀ a, x.2.1 1 n = some a → a ∈ x.2.2.2.1 := fun a ha => (RD_at h.2.2.1 hn ha).1
theorem RR_xr {x : XS} {m : MS} {sr : Nat → Nat} {T : Nat} (h : RR x m sr T) : ∀ i, i < 20 → ∀ a, x.2.1 2 i = some a → a ∈ x.2.2.2.1 := by
  intro i hi a ha
  by_cases q : i < m.2.2.2
  · obtain ⟨b, q1, q2⟩ := (h.2.2.2.1 i hi).1 q
    rw [ha] at q1
    cases q1
    exact q2.1
  · rw [(h.2.2.2.1 i hi).2 (by omega)] at ha
    cases ha
theorem keptL_none (m : MS) (n : Nat) : ∀ f i : Nat, (∀ j, i ≤ j → j < i + f → ¬ m.1 10 (8 * j + 7) = m.1 8 n) → m_keptL m n f i = -9 := by
  intro f
  induction f with
  | zero => intro i _; rfl
  | succ f ih =>
    intro i h
    unfold m_keptL
    rw [if_neg (h i (by omega) (by omega))]
    exact ih (i + 1) (fun j h1 h2 => h j (by omega) (by omega))
theorem keptL_some (m : MS) (n : Nat) {k : Nat} (hk : m.1 10 (8 * k + 7) = m.1 8 n) : ∀ f i : Nat, i ≤ k → k < i + f → (∀ j, i ≤ j → j < k → ¬ m.1 10 (8 * j + 7) = m.1 8 n) → m_keptL m n f i = nI k := by
  intro f
  induction f with
  | zero => intro i h1 h2; omega
  | succ f ih =>
    intro i h1 h2 h
    unfold m_keptL
    by_cases e : i = k
    · subst e; rw [if_pos hk]
    · rw [if_neg (h i (by omega) (by omega))]
      exact ih (i + 1) (by omega) (by omega) (fun j h3 h4 => h j (by omega) h4)
theorem known_sim {x : XS} {m : MS} {sr : Nat → Nat} {T n : Nat} (h : RR x m sr T) (hT : T < 2 ^ 30) (hn : n < 100) : (x_recall x n = none ∧ m_known m n = false) ∨ ∃ a, x_recall x n = some a ∧ m_known m n = true ∧ RD1 x m sr T n a ∧ x.2.1 1 n = some a ∧ cf x a 11 = nI 0 ∧ m.1 8 n = nI (sr a) ∧ cf x a 7 = m.1 9 n ∧ ((cf x a 10 = nI 0 ∧ m_keptAt m n = -9) ∨ (cf x a 10 = nI 1 ∧ ∃ i, i < m.2.2.2 ∧ x.2.1 2 i = some a ∧ m_keptAt m n = nI i)) := by
  have b0 : x.1 2 0 = m.2.1 := h.1.2.2.1.1
  have b4 : m.2.2.2 ≤ 20 := h.1.2.2.1.2.2.2.2.1
  unfold x_recall m_known
  rcases h.2.2.1 n hn with ⟨q1, q2⟩ | ⟨a, q1, q2⟩
  · rw [q1, q2]
    exact Or.inl ⟨rfl, by simp [show nI 0 ≤ 0 from by decide]⟩
  · rw [q1]
    dsimp only
    obtain ⟨d1, d2, d3, d4, d5, d6⟩ := id q2
    rcases d5 with ⟨e1, e2, e3⟩ | ⟨e1, e2⟩
    · rw [b0, e3, e2]
      have n1 : ¬ nI (sr a) ≤ 0 := nI_nle (by omega) (by omega)
      by_cases c : m.2.1 - m.1 9 n < nI 50
      · rw [if_pos ⟨e1, c⟩]
        refine Or.inr ⟨a, rfl, ?_, q2, rfl, e1, rfl, e3, ?_⟩
        · rw [decide_eq_true_eq]
          exact ⟨n1, Int32.not_le.mpr c⟩
        · have hs : ∀ i, i < m.2.2.2 → ∀ b, x.2.1 2 i = some b → m.1 10 (8 * i + 7) = nI (sr b) ∧ b ∈ x.2.2.2.1 ∧ cf x b 10 = nI 1 ∧ sr b ≤ T := by
            intro i hi b hb
            obtain ⟨b', r1, r2⟩ := (h.2.2.2.1 i (by omega)).1 hi
            rw [r1] at hb
            cases hb
            exact ⟨r2.2.2.2.2.2.2.2.2.2.2.2.2.2.2.2, r2.1, r2.2.2.2.2.2.1, r2.2.2.1⟩
          have hrow : ∀ i, i < m.2.2.2 → ∃ b, x.2.1 2 i = some b := fun i hi => by
            obtain ⟨b, r1, -⟩ := (h.2.2.2.1 i (by omega)).1 hi
            exact ⟨b, r1⟩
          have hno : ∀ i, i < m.2.2.2 → ¬ x.2.1 2 i = some a → ¬ m.1 10 (8 * i + 7) = m.1 8 n := by
            intro i hi hne q
            obtain ⟨b, hb⟩ := hrow i hi
            obtain ⟨r1, r2, -, r4⟩ := hs i hi b hb
            rw [r1, e2] at q
            have := h.2.2.2.2.2.2 a b d1 r2 d2 (nI_inj (by omega) (by omega) q).symm
            rw [← this] at hb
            exact hne hb
          by_cases hin : ∃ i, i < m.2.2.2 ∧ x.2.1 2 i = some a
          · obtain ⟨i, hi, hi2⟩ := hin
            obtain ⟨r1, r2, r3, r4⟩ := hs i hi a hi2
            refine Or.inr ⟨r3, i, hi, hi2, ?_⟩
            exact keptL_some m n (by rw [r1, e2]) m.2.2.2 0 (by omega) (by omega) (fun j _ hj => hno j (by omega) (fun q => by
              have := h.2.2.2.2.1 j i (by omega) hi (by rw [q, hi2])
              omega))
          · refine Or.inl ⟨d6.resolve_right hin, ?_⟩
            exact keptL_none m n m.2.2.2 0 (fun j _ hj => hno j (by omega) (fun q => hin ⟨j, by omega, q⟩))
      · rw [if_neg (fun q => c q.2)]
        refine Or.inl ⟨rfl, ?_⟩
        rw [decide_eq_false_iff_not]
        exact fun q => q.2 (Int32.not_lt.mp c)
    · rw [if_neg (fun q => by rw [e1] at q; exact absurd q.1 (by decide)), e2]
      exact Or.inl ⟨rfl, by simp [show nI 0 ≤ 0 from by decide]⟩
theorem waits_sim {x : XS} {m : MS} {sr : Nat → Nat} {T n w : Nat} (h : RR x m sr T) (hn : n < 100) (hw : w < 6) : x_waits x n w = m_waits m n w := by
  unfold x_waits m_waits
  rcases h.2.1 n hn with ⟨q1, q2⟩ | ⟨a, q1, wL, wS, w0, -, w4, w7, w3, wp, w5, w6, w10, w11, wn, wh, wPF⟩
  · rw [q1, if_pos q2]
  · rw [q1, if_neg wn]
    dsimp only
    rcases (show w = 0 ∨ w = 1 ∨ w = 2 ∨ w = 3 ∨ w = 4 ∨ w = 5 by omega) with rfl | rfl | rfl | rfl | rfl | rfl
    · exact w3
    · exact wp
    · exact w4
    · exact w5
    · exact w6
    · show x.1 2 0 - cf x a 2 = m.2.1 - m.1 7 n
      rw [w7, h.1.2.2.1.1]
theorem rem_sim {x : XS} {m : MS} {sr : Nat → Nat} {T n : Nat} (h : RR x m sr T) (hT : T < 2 ^ 30) (hn : n < 100) : x_rem x n = m_rem m n := by
  unfold x_rem m_rem
  rcases known_sim h hT hn with ⟨q1, q2⟩ | ⟨a, q1, q2, -, -, -, -, -, q⟩
  · rw [q1, q2]; rfl
  · rw [q1, q2]
    dsimp only
    rw [if_pos rfl]
    rcases q with ⟨e1, e2⟩ | ⟨e1, i, hi, -, e2⟩
    · rw [e1, e2]; rfl
    · have := h.1.2.2.1.2.2.2.2.1
      rw [e1, e2, if_neg (by decide), if_neg (nI_n9 (by omega))]
theorem kat_none {x : XS} {m : MS} {sr : Nat → Nat} {T : Nat} {v : Int32} (h : RR x m sr T) : (x_kat x v = none ∧ inR v (nI 0) (nI m.2.2.2 - nI 1) = false) ∨ ∃ i a, i < m.2.2.2 ∧ v = nI i ∧ x.2.1 2 i = some a ∧ x_kat x v = some a ∧ RK1 x m sr T i a := by
  have b4 : m.2.2.2 ≤ 20 := h.1.2.2.1.2.2.2.2.1
  by_cases c : inR v (nI 0) (nI m.2.2.2 - nI 1) = true
  · obtain ⟨i, hi, rfl⟩ := (kmR b4).mp c
    obtain ⟨a, q1, q2⟩ := (h.2.2.2.1 i (by omega)).1 hi
    exact Or.inr ⟨i, a, hi, rfl, q1, by rw [x_kat_n x (by omega)]; exact q1, q2⟩
  · refine Or.inl ⟨?_, by simpa using c⟩
    cases hk : x_kat x v with
    | none => rfl
    | some a =>
      obtain ⟨i, hi, rfl, ha⟩ := x_kat_s hk
      exfalso
      apply c
      refine (kmR b4).mpr ⟨i, ?_, rfl⟩
      apply Decidable.byContradiction
      intro q
      rw [(h.2.2.2.1 i hi).2 (by omega)] at ha
      cases ha
theorem kept_sim {x : XS} {m : MS} {sr : Nat → Nat} {T i a w : Nat} (h : RK1 x m sr T i a) (hw : w < 7) : x_kval x a w = m.1 10 (8 * i + w) := by
  obtain ⟨q1, q2, q3, q4, q5, q6, q7, q8, q9, q10, q11, q12, q13, q14, q15, q16⟩ := h
  rcases (show w = 0 ∨ w = 1 ∨ w = 2 ∨ w = 3 ∨ w = 4 ∨ w = 5 ∨ w = 6 by omega) with rfl | rfl | rfl | rfl | rfl | rfl | rfl
  · exact q9.symm
  · exact q10.symm
  · exact q11.symm
  · exact q12.symm
  · exact q13.symm
  · rw [q14]
    show (if cf x a 9 = 0 then nI 0 else nI 1) = _
    rcases q8 with q | q
    · rw [q]; rfl
    · rw [q]; rfl
  · exact q15.symm
theorem count_sim {x : XS} {m : MS} {sr : Nat → Nat} {T w : Nat} (h : RR x m sr T) (hw : w < 13) : x.1 2 w = m_count m w := by
  obtain ⟨b0, b1, b2, b3, b4, b5, b6⟩ := h.1.2.2.1
  unfold m_count
  by_cases e0 : w = 0
  · rw [if_pos e0, e0]; exact b0
  rw [if_neg e0]
  by_cases e1 : w = 1
  · rw [if_pos e1, e1, m_wm_eq]; exact b1
  rw [if_neg e1]
  by_cases e2 : w = 2
  · rw [if_pos e2, e2]; exact b3
  rw [if_neg e2]
  by_cases e3 : w = 12
  · rw [if_pos e3, e3]; exact b6
  rw [if_neg e3]
  exact b5 w (by omega) (by omega)
theorem hm_sim {x : XS} {m : MS} {sr : Nat → Nat} {T : Nat} (h : RR x m sr T) (n : Nat) : hm (x_up x) n = hm (m_up m) n := by
  have hk : ∀ k, k < 4 → x_up x k = m_up m k := by
    intro k hk
    unfold x_up m_up
    rcases h.1.1 k hk with ⟨q1, q2⟩ | ⟨q1, q2⟩
    · rw [q1, q2]; rfl
    · rw [q1, q2]; rfl
  have key : ∀ (f k : Nat) (b t : Int32), k + f = 4 → hmL (x_up x) n f k b t = hmL (m_up m) n f k b t := by
    intro f
    induction f with
    | zero => intro k b t _; rfl
    | succ f ih =>
      intro k b t hf
      unfold hmL
      rw [hk k (by omega), ih (k + 1) _ _ (by omega), ih (k + 1) _ _ (by omega)]
  exact key 4 0 _ _ rfl
