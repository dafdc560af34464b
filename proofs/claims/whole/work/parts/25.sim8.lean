theorem RR_late {x : XS} {m : MS} {sr : Nat → Nat} {T n a q z i : Nat} (h : RR x m sr T) (hq : q < 8) (hi : i < m.2.2.2) (hr : x.2.1 2 i = some a) (hh : x_has (cf x a 4) q = false) : RR (x_add x a q (nI z)) (m_late m q z i) sr T := by
  obtain ⟨⟨a1, a2, ⟨b0, b1, b2, b3, b4, b5, b6⟩, a4, a5, a6⟩, hW, hD, hK, hJ, hS⟩ := h
  have k1 : RK1 x m sr T i a := by
    obtain ⟨b, r1, r2⟩ := (hK i (by omega)).1 hi
    rw [hr] at r1
    cases r1
    exact r2
  obtain ⟨q1, q2, q3, q4, ⟨q5, pn, p1, p2⟩, q6, q7, q8, q9, q10, q11, q12, q13, q14, q15, q16⟩ := k1
  have eo := bt_or pn p1 q hq
  have et := bt_hasX pn p1 q hq
  rw [p2] at hh
  unfold x_has at hh
  rw [et] at hh
  obtain ⟨t1, -, -, -⟩ := bt_pop pn p1 q hq hh
  have x1 : (x_add x a q (nI z)).1 = x.1 := rfl
  have x21 : (x_add x a q (nI z)).2.1 = x.2.1 := rfl
  have xm : (x_add x a q (nI z)).2.2.1 = x.2.2.1 := rfl
  have xL : (x_add x a q (nI z)).2.2.2.1 = x.2.2.2.1 := rfl
  have xb : ∀ b f, b ≠ a → cf (x_add x a q (nI z)) b f = cf x b f := fun b f hb => by unfold x_add xcad xcor; rw [cf_b hb, cf_b hb]
  have xa : ∀ f, f ≠ 4 → f ≠ 5 → cf (x_add x a q (nI z)) a f = cf x a f := fun f h4 h5 => by unfold x_add xcad xcor; rw [cf_ne h5, cf_ne h4]
  have x4 : cf (x_add x a q (nI z)) a 4 = cf x a 4 ||| (nI 1 <<< (nI q &&& 31)) := by unfold x_add xcad xcor; rw [cf_ne (by decide), cf_eq]
  have x5 : cf (x_add x a q (nI z)) a 5 = cf x a 5 + nI z := by unfold x_add xcad xcor; rw [cf_eq, cf_ne (by decide)]
  have mk : ∀ k, k ≠ 10 → (m_late m q z i).1 k = m.1 k := fun k hk => by rw [m_late, madd, mset_k hk, mor, mset_k hk]
  have mo : ∀ j, j ≠ 8 * i + 1 → j ≠ 8 * i + 3 → (m_late m q z i).1 10 j = m.1 10 j := fun j h1 h3 => by rw [m_late, madd, mset_a, pk_un h3, mor, mset_a, pk_un h1]
  have m1 : (m_late m q z i).1 10 (8 * i + 1) = m.1 10 (8 * i + 1) ||| (nI 1 <<< (nI q &&& 31)) := by rw [m_late, madd, mset_a, pk_un (by omega), mor, mset_s]
  have m3 : (m_late m q z i).1 10 (8 * i + 3) = m.1 10 (8 * i + 3) + nI z := by rw [m_late, madd, mset_s, mor, mset_a, pk_un (by omega)]
  have mr : (m_late m q z i).2 = m.2 := rfl
  generalize x_add x a q (nI z) = u at x1 x21 xm xL xb xa x4 x5
  generalize m_late m q z i = v at mk mo m1 m3 mr
  have hm : ∀ b, b ∈ x.2.2.2.1 → b ∈ u.2.2.2.1 := fun b hb => by rw [xL]; exact hb
  have hu : m_up v = m_up m := m_up_c (mk 0 (by decide))
  refine ⟨⟨?_, ⟨?_, ?_, ?_⟩, ?_, ?_, ?_, ?_⟩, ?_, ?_, ?_, ?_, ?_⟩
  · rw [x1, mk 0 (by decide)]; exact a1
  · rw [x1, mk 1 (by decide)]; exact a2.1
  · rw [x1, mk 11 (by decide)]; exact a2.2.1
  · rw [xm, mr]; exact a2.2.2
  · rw [x1, mr, mk 2 (by decide), mk 13 (by decide), m_upL_c (mk 0 (by decide))]; exact ⟨b0, b1, b2, b3, b4, b5, b6⟩
  · rw [x1, mk 12 (by decide)]; exact a4
  · rw [mk 13 (by decide)]; exact a5
  · rw [mk 12 (by decide)]; exact a6
  · intro j hj
    rw [x21, mk 2 (by decide)]
    rcases hW j hj with r | ⟨b, r1, r2⟩
    · exact Or.inl r
    · have hba : b ≠ a := fun e => by
        have := r2.2.1
        rw [e] at this
        omega
      exact Or.inr ⟨b, r1, RW1_c r2 hm rfl (fun f _ => xb b f hba) (fun k hk => by rw [mk k (by omega)]) hu⟩
  · intro j hj
    rw [x21, mk 8 (by decide)]
    rcases hD j hj with r | ⟨b, r1, r2⟩
    · exact Or.inl r
    · refine Or.inr ⟨b, r1, RD1_c r2 hm rfl (Nat.le_refl _) (fun f hf => ?_) (by rw [mk 8 (by decide)]) (by rw [mk 9 (by decide)]) (fun i hi r => ⟨i, by rw [mr]; exact hi, by rw [x21]; exact r⟩)⟩
      by_cases e : b = a
      · rw [e]; exact xa f (by omega) (by omega)
      · exact xb b f e
  · intro j hj
    rw [x21, mr]
    refine ⟨fun r => ?_, (hK j hj).2⟩
    by_cases e : j = i
    · subst e
      refine ⟨a, hr, hm a q1, q2, q3, ?_, ⟨?_, ?_⟩, ?_, ?_, ?_, ?_, ?_, ?_, ?_, ?_, ?_, ?_, ?_⟩
      · rw [xa 0 (by decide) (by decide)]; exact q4
      · rw [xa 1 (by decide) (by decide)]; exact q5
      · exact ⟨pn ||| 2 ^ q, t1, by rw [x4, p2, eo]⟩
      · rw [xa 10 (by decide) (by decide)]; exact q6
      · rw [xa 11 (by decide) (by decide)]; exact q7
      · rw [xa 9 (by decide) (by decide)]; exact q8
      · rw [mo _ (by omega) (by omega), xa 0 (by decide) (by decide)]; exact q9
      · rw [m1, x4, q10]
      · rw [mo _ (by omega) (by omega), xa 1 (by decide) (by decide)]; exact q11
      · rw [m3, x5, q12]
      · rw [mo _ (by omega) (by omega), xa 8 (by decide) (by decide)]; exact q13
      · rw [mo _ (by omega) (by omega), xa 9 (by decide) (by decide)]; exact q14
      · rw [mo _ (by omega) (by omega), xa 7 (by decide) (by decide)]; exact q15
      · rw [mo _ (by omega) (by omega)]; exact q16
    · obtain ⟨b, r1, r2⟩ := (hK j hj).1 r
      have hba : b ≠ a := fun e2 => e (hJ j i r hi (by rw [r1, hr, e2]))
      exact ⟨b, r1, RK1_c r2 hm rfl (Nat.le_refl _) (fun f _ => xb b f hba) (fun w hw => mo _ (by omega) (by omega))⟩
  · intro j k
    rw [x21, mr]
    exact hJ j k
  · exact ⟨fun b => by rw [xL]; exact hS.1 b, fun b c => by rw [xL]; exact hS.2 b c⟩
theorem piece_sim {x : XS} {m : MS} {sr : Nat → Nat} {T n q0 q sh z : Nat} {il : Bool} (h : RR x m sr T) (hn : n < 100) (hT : T < 2 ^ 30) (hq : q < 8) (hs : sh < 5) (hz : z ≤ 1000) (hq0 : q0 ∉ x.2.2.2.1) : (x_piece x q0 n q il sh z).1 = (m_piece m n q il sh z).1 ∧ ∃ sr' T', RR (x_piece x q0 n q il sh z).2 (m_piece m n q il sh z).2 sr' T' ∧ T' ≤ T + 1 := by
  have eh := hm_sim h n
  rw [m_piece_eq]
  dsimp only
  unfold x_piece m_comes
  rw [eh]
  by_cases c1 : hm (m_up m) n = -9
  · rw [if_pos c1, if_pos c1]
    exact ⟨rfl, sr, T, RR_cnt h (by decide) (by decide), by omega⟩
  rw [if_neg c1, if_neg c1]
  rcases hw : x.2.1 0 n with _ | a
  · have hmn : m.1 2 n = -9 := by
      rcases h.2.1 n hn with r | ⟨b, r1, -⟩
      · exact r.2
      · rw [hw] at r1; cases r1
    rw [if_neg (show ¬ ¬ m.1 2 n = -9 from fun r => r hmn)]
    dsimp only
    rcases known_sim h hT hn with ⟨k1, k2⟩ | ⟨a, k1, k2, k3, k4, k5, k6, k7, k8⟩
    · rw [k1, k2, if_neg (show ¬ false = true by decide), m_wm_eq]
      dsimp only
      have b1 := h.1.2.2.1.2.1
      have b2 := h.1.2.2.1.2.2.1
      rw [b1]
      have ci : nI (cntW (m.1 2)) < nI 24 ↔ cntW (m.1 2) < 24 := nI_ltI (by omega) (by decide)
      have ce : nI (cntW (m.1 2)) = nI 24 ↔ cntW (m.1 2) = 24 := nI_eq (by omega) (by decide)
      by_cases c : cntW (m.1 2) < 24
      · rw [if_pos (ci.mpr c), if_neg (fun r => by have := ce.mp r; omega)]
        obtain ⟨f1, f2, f3⟩ := RR_first h hn hs hq0 hw c1 c
        have hv := RW_at f1.2.1 hn f2
        have j := join_sim (il := il) (z := z) f1 hn hT hq hz f2
        have e4 : cf (x_first x q0 n sh) q0 4 = nI 0 := (cf_born (x := xnew x q0) (a := q0)).2.2.2.2.1
        have e6 : cf (x_first x q0 n sh) q0 6 = -9 := (cf_born (x := xnew x q0) (a := q0)).2.2.2.2.2.2.1
        have et : x_takeIn (x_first x q0 n sh) q0 q il z = x_hearW (x_first x q0 n sh) q0 q il z := by
          unfold x_hearW
          have z1 : x_has (nI 0) q = false := by
            have := bt_hasX 0 (by decide) q hq
            unfold x_has
            rw [this]
            unfold tb
            exact Nat.zero_testBit q
          have z2 : x_contr (-9) (nI 0) q il = false := by
            have := bt_shX 0 (by decide) q hq
            have h2 : nI 0 >>> (nI (q + 1) &&& 31) = 0 := by
              have h3 : decide (0 < 2 ^ (q + 1)) = true := by rw [decide_eq_true_eq]; exact Nat.pow_pos (by decide)
              rw [h3] at this
              exact of_decide_eq_true this
            unfold x_contr
            simp [h2]
          rw [e4, e6, z1, z2, if_neg (by decide), if_neg (by decide)]
        rw [et]
        exact ⟨j.1, j.2.2⟩
      · rw [if_neg (fun r => c (ci.mp r)), if_pos (ce.mpr (by omega))]
        exact ⟨rfl, sr, T, RR_cnt h (by decide) (by decide), by omega⟩
    · rw [k1, k2, if_pos (show true = true from rfl)]
      dsimp only
      unfold x_hearD
      have e5 := h.1.2.1.1 5 (by decide)
      have e0 := h.1.2.2.1.1
      rw [e5, e0, k7]
      rcases k8 with ⟨g1, g2⟩ | ⟨g1, i, hi, g2, g3⟩
      · rw [g1, g2, if_pos (show nI 0 = 0 ∨ _ from Or.inl rfl), if_pos (Or.inl rfl)]
        exact ⟨rfl, sr, T, RR_cnt h (by decide) (by decide), by omega⟩
      · have b4 := h.1.2.2.1.2.2.2.2.1
        have kk : RK1 x m sr T i a := by
          obtain ⟨b, r1, r2⟩ := (h.2.2.2.1 i (by omega)).1 hi
          rw [g2] at r1
          cases r1
          exact r2
        obtain ⟨q1, q2, q3, q4, ⟨q5, pn, p1, p2⟩, q6, q7, q8, q9, q10, q11, q12, q13, q14, q15, q16⟩ := kk
        have eX := bt_hasX pn p1 q hq
        have eM := bt_hasM pn p1 q hq
        have ebit : ((m.1 10 (8 * i + 1) >>> (nI q &&& 31)) &&& nI 1 = nI 1) ↔ x_has (cf x a 4) q = true := by
          rw [q10, p2]
          unfold x_has
          rw [eX, ← eM, decide_eq_true_eq]
        rw [g3, g1, nI_clamp (by omega)]
        have n1 : ¬ nI 1 = 0 := by decide
        have n9 := nI_n9 (j := i) (by omega)
        by_cases c : m.1 1 5 < m.2.1 - m.1 9 n ∨ x_has (cf x a 4) q = true
        · rw [if_pos (Or.inr c), if_pos (Or.inr (c.elim Or.inl (fun r => Or.inr (ebit.mpr r))))]
          exact ⟨rfl, sr, T, RR_cnt h (by decide) (by decide), by omega⟩
        · rw [if_neg (fun r => r.elim n1 c), if_neg (fun r => r.elim n9 (fun r => c (r.elim Or.inl (fun r => Or.inr (ebit.mp r)))))]
          have hf : x_has (cf x a 4) q = false := by
            cases hx : x_has (cf x a 4) q with
            | true => exact absurd (Or.inr hx) c
            | false => rfl
          have hl := RR_late (n := n) (z := z) h hq hi g2 hf
          exact ⟨rfl, sr, T, RR_cnt hl (by decide) (by decide), by omega⟩
  · have w1 := RW_at h.2.1 hn hw
    have wn : ¬ m.1 2 n = -9 := w1.2.2.2.2.2.2.2.2.2.2.2.2.1
    rw [if_pos wn]
    dsimp only
    have j := join_sim (il := il) (z := z) h hn hT hq hz hw
    exact ⟨j.1, j.2.2⟩
