/-! a piece, on both sides -/
theorem RR_cnt {x : XS} {m : MS} {sr : Nat → Nat} {T i : Nat} (h : RR x m sr T) (h1 : 3 ≤ i) (h2 : i < 10) : RR (xinc x 2 i) (m_inc m 13 i) sr T := by
  obtain ⟨⟨a1, a2, ⟨b0, b1, b2, b3, b4, b5, b6⟩, a4, a5, a6⟩, hW, hD, hK, hJ, hS⟩ := h
  have x2 : ∀ w, w ≠ i → (xinc x 2 i).1 2 w = x.1 2 w := fun w hw => by rw [xinc, xset_a, pk_un hw]
  have m2 : ∀ w, w ≠ i → (m_inc m 13 i).1 13 w = m.1 13 w := fun w hw => by rw [m_inc, mset_a, pk_un hw]
  refine ⟨⟨a1, ⟨a2.1, fun s w q1 q2 => ?_, a2.2.2⟩, ⟨?_, ?_, b2, ?_, b4, ?_, ?_⟩, a4, ?_, a6⟩, hW, hD, hK, hJ, hS⟩
  · rw [xinc, xset_k (by omega)]; exact a2.2.1 s w q1 q2
  · rw [x2 0 (by omega)]; exact b0
  · rw [x2 1 (by omega)]; exact b1
  · rw [x2 2 (by omega)]; exact b3
  · intro w q1 q2
    by_cases e : w = i
    · subst e; rw [xinc, xset_s, m_inc, mset_s, b5 w q1 q2]
    · rw [x2 w e, m2 w e]; exact b5 w q1 q2
  · rw [x2 12 (by omega)]; exact b6
  · rw [m2 10 (by omega)]; exact a5
theorem PF_has {p z l : Int32} {q : Nat} (h : PF p z l) (hq : q < 8) : ((p >>> (nI q &&& 31)) &&& nI 1 = nI 1 ↔ x_has p q = true) ∧ (x_has p q = false → ∃ zn, zn ≤ 7000 ∧ z = nI zn) := by
  obtain ⟨pn, zn, h1, rfl, h3, h4, -⟩ := h
  have e1 := bt_hasX pn h1 q hq
  have e2 := bt_hasM pn h1 q hq
  unfold x_has
  rw [e1, ← e2, decide_eq_true_eq]
  refine ⟨Iff.rfl, fun hf => ⟨zn, ?_, h3⟩⟩
  rw [e2] at hf
  have := (bt_pop pn h1 q hq hf).2.2.1
  omega
theorem PF_odd {m : MS} {n q : Nat} {il : Bool} (h : PF (m.1 3 n) (m.1 5 n) (m.1 6 n)) (hq : q < 8) (hn : x_has (m.1 3 n) q = false) : x_contr (m.1 6 n) (m.1 3 n) q il = m_odB m n q il := by
  have key : x_contr (m.1 6 n) (m.1 3 n) q il = true ↔ m_odd m n q il := by
    obtain ⟨pn, zn, h1, h2, h3, h4, h5⟩ := h
    unfold x_contr m_odd
    rw [h2] at hn ⊢
    have eh := bt_hasX pn h1 q hq
    unfold x_has at hn
    rw [eh] at hn
    have e1 := bt_shM pn h1 q hq
    have e2 := bt_shX pn h1 q hq
    have e3 := bt_low pn h1 q hq hn
    rw [decide_eq_decide] at e1 e2
    rcases h5 with h5 | ⟨ln, l1, l2, l3, l4⟩
    · rw [h5]
      simp only [e1, e2, e3]
      cases il <;> simp
    · have hne : ¬ ln = q := fun e => by rw [e, hn] at l3; cases l3
      rw [l2]
      have n9 := nI_n9 (j := ln) (by omega)
      have c1 : nI q ≤ nI ln ↔ q ≤ ln := nI_leI (by omega) (by omega)
      have c2 : nI ln < nI q ↔ ln < q := nI_ltI (by omega) (by omega)
      have c3 : nI ln = nI q ↔ ln = q := nI_eq (by omega) (by omega)
      simp only [e1, e2, e3, c1, c2, c3, n9, hne]
      cases il <;> simp
  by_cases c : m_odd m n q il
  · rw [m_odT c, key.mpr c]
  · have := m_odF c
    cases h1 : x_contr (m.1 6 n) (m.1 3 n) q il with
    | true => exact absurd (key.mp h1) c
    | false =>
      cases h2 : m_odB m n q il with
      | true => exact absurd h2 this
      | false => rfl
theorem PF_add {p z l : Int32} {q zz : Nat} {il : Bool} (h : PF p z l) (hq : q < 8) (hz : zz ≤ 1000) (hn : x_has p q = false) (ho : x_contr l p q il = false) : PF (p ||| (nI 1 <<< (nI q &&& 31))) (z + nI zz) (if il = true then nI q else l) ∧ (x_whole (if il = true then nI q else l) (p ||| (nI 1 <<< (nI q &&& 31))) = true ↔ (¬ (if il = true then nI q else l) = -9 ∧ p ||| (nI 1 <<< (nI q &&& 31)) = (nI 1 <<< (((if il = true then nI q else l) + nI 1) &&& 31)) - nI 1)) := by
  obtain ⟨pn, zn, h1, rfl, rfl, h4, h5⟩ := h
  have eh := bt_hasX pn h1 q hq
  unfold x_has at hn
  rw [eh] at hn
  obtain ⟨p1, p2, p3, p4⟩ := bt_pop pn h1 q hq hn
  have eo := bt_or pn h1 q hq
  have e2 := bt_shX pn h1 q hq
  rw [decide_eq_decide] at e2
  rw [eo, nI_add]
  unfold x_contr at ho
  have hl : (if il = true then nI q else l) = -9 ∨ ∃ ln, ln < 8 ∧ (if il = true then nI q else l) = nI ln ∧ tb (pn ||| 2 ^ q) ln = true ∧ (pn ||| 2 ^ q) < 2 ^ (ln + 1) := by
    cases il
    · rw [if_neg (by decide)]
      rcases h5 with h5 | ⟨ln, l1, l2, l3, l4⟩
      · exact Or.inl h5
      · refine Or.inr ⟨ln, l1, l2, bt_keep pn h1 q hq ln l1 l3, bt_lt pn h1 q hq ln l1 l4 ?_⟩
        rw [l2] at ho
        have n9 := nI_n9 (j := ln) (by omega)
        have c1 : nI q ≤ nI ln ↔ q ≤ ln := nI_leI (by omega) (by omega)
        simp [n9, c1] at ho
        exact ho
    · rw [if_pos rfl]
      refine Or.inr ⟨q, hq, rfl, p4, ?_⟩
      have hlt : pn < 2 ^ (q + 1) := by
        apply Decidable.byContradiction
        intro c
        rw [← e2] at c
        simp [c] at ho
      exact bt_lt pn h1 q hq q hq hlt (Nat.le_refl _)
  refine ⟨⟨pn ||| 2 ^ q, zn + zz, p1, rfl, rfl, by omega, hl⟩, ?_⟩
  rcases hl with hl | ⟨ln, l1, l2, l3, l4⟩
  · rw [hl]
    unfold x_whole
    simp
  · rw [l2]
    have ew := bt_wh (pn ||| 2 ^ q) p1 ln l1 l4
    rw [decide_eq_decide] at ew
    unfold x_whole
    rw [decide_eq_true_eq, ew]
theorem RR_joinW {x : XS} {m : MS} {sr : Nat → Nat} {T n a q z : Nat} {il : Bool} (h : RR x m sr T) (hn : n < 100) (hq : q < 8) (hz : z ≤ 1000) (ha : x.2.1 0 n = some a) (hh : x_has (cf x a 4) q = false) (ho : x_contr (cf x a 6) (cf x a 4) q il = false) : RR (x_tk x a q il z) (m_jn m n q il z) sr T ∧ (x_tk x a q il z).2.1 0 n = some a := by
  have w1 := RW_at h.2.1 hn ha
  obtain ⟨⟨a1, a2, ⟨b0, b1, b2, b3, b4, b5, b6⟩, a4, a5, a6⟩, hW, hD, hK, hJ, hS⟩ := h
  obtain ⟨wL, wS, w0, wsh, w4, w7, w3, wp, w5, w6, w10, w11, wn, wh, wPF⟩ := w1
  rw [wp] at hh
  rw [wp, w6] at ho
  have hpf := (PF_add (zz := z) wPF hq hz hh ho).1
  -- the class's side
  have x1 : (x_tk x a q il z).1 = x.1 := by unfold x_tk x_last; split <;> rfl
  have x21 : (x_tk x a q il z).2.1 = x.2.1 := by unfold x_tk x_last; split <;> rfl
  have xm : (x_tk x a q il z).2.2.1 = x.2.2.1 := by unfold x_tk x_last; split <;> rfl
  have xL : (x_tk x a q il z).2.2.2.1 = x.2.2.2.1 := by unfold x_tk x_last; split <;> rfl
  have xb : ∀ b f, b ≠ a → cf (x_tk x a q il z) b f = cf x b f := by
    intro b f hb
    unfold x_tk x_last x_add xcad xcor
    split
    · rw [cf_b hb, cf_b hb, cf_b hb]
    · rw [cf_b hb, cf_b hb]
  have xa : ∀ f, f ≠ 4 → f ≠ 5 → f ≠ 6 → cf (x_tk x a q il z) a f = cf x a f := by
    intro f h4 h5 h6
    unfold x_tk x_last x_add xcad xcor
    split
    · rw [cf_ne h6, cf_ne h5, cf_ne h4]
    · rw [cf_ne h5, cf_ne h4]
  have x4 : cf (x_tk x a q il z) a 4 = m.1 3 n ||| (nI 1 <<< (nI q &&& 31)) := by
    unfold x_tk x_last x_add xcad xcor
    split
    · rw [cf_ne (by decide), cf_ne (by decide), cf_eq, wp]
    · rw [cf_ne (by decide), cf_eq, wp]
  have x5 : cf (x_tk x a q il z) a 5 = m.1 5 n + nI z := by
    unfold x_tk x_last x_add xcad xcor
    split
    · rw [cf_ne (by decide), cf_eq, cf_ne (by decide), w5]
    · rw [cf_eq, cf_ne (by decide), w5]
  have x6 : cf (x_tk x a q il z) a 6 = if il = true then nI q else m.1 6 n := by
    unfold x_tk x_last x_add xcad xcor
    split
    · rw [cf_eq]
    · rw [cf_ne (by decide), cf_ne (by decide), w6]
  -- the reference's side
  have mk : ∀ k, k ≠ 3 → k ≠ 5 → k ≠ 6 → (m_jn m n q il z).1 k = m.1 k := fun k h3 h5 h6 => by rw [m_jn, mlast, mset_k h6, madd, mset_k h5, mor, mset_k h3]
  have m3 : (m_jn m n q il z).1 3 = upd (m.1 3) n (m.1 3 n ||| (nI 1 <<< (nI q &&& 31))) := by rw [m_jn, mlast, mset_k (by decide), madd, mset_k (by decide), mor, mset_a]
  have m5 : (m_jn m n q il z).1 5 = upd (m.1 5) n (m.1 5 n + nI z) := by rw [m_jn, mlast, mset_k (by decide), madd, mset_a, mor, mset_k (by decide)]
  have m6 : (m_jn m n q il z).1 6 = upd (m.1 6) n (if il = true then nI q else m.1 6 n) := by rw [m_jn, mlast, mset_a, madd, mset_k (by decide), mor, mset_k (by decide)]
  have mr : (m_jn m n q il z).2 = m.2 := rfl
  generalize x_tk x a q il z = u at x1 x21 xm xL xb xa x4 x5 x6
  generalize m_jn m n q il z = v at mk m3 m5 m6 mr
  have hm : ∀ b, b ∈ x.2.2.2.1 → b ∈ u.2.2.2.1 := fun b hb => by rw [xL]; exact hb
  have hu : m_up v = m_up m := m_up_c (mk 0 (by decide) (by decide) (by decide))
  have hne : ∀ b, 1 ≤ sr b → b ≠ a := fun b hb e => by rw [e, wS] at hb; omega
  refine ⟨⟨⟨?_, ⟨?_, ?_, ?_⟩, ?_, ?_, ?_, ?_⟩, ?_, ?_, ?_, ?_, ?_⟩, by rw [x21]; exact ha⟩
  · rw [x1, mk 0 (by decide) (by decide) (by decide)]; exact a1
  · rw [x1, mk 1 (by decide) (by decide) (by decide)]; exact a2.1
  · rw [x1, mk 11 (by decide) (by decide) (by decide)]; exact a2.2.1
  · rw [xm, mr]; exact a2.2.2
  · rw [x1, mr, mk 2 (by decide) (by decide) (by decide), mk 13 (by decide) (by decide) (by decide), m_upL_c (mk 0 (by decide) (by decide) (by decide))]; exact ⟨b0, b1, b2, b3, b4, b5, b6⟩
  · rw [x1, mk 12 (by decide) (by decide) (by decide)]; exact a4
  · rw [mk 13 (by decide) (by decide) (by decide)]; exact a5
  · rw [mk 12 (by decide) (by decide) (by decide)]; exact a6
  · intro j hj
    rw [x21, mk 2 (by decide) (by decide) (by decide)]
    by_cases e : j = n
    · subst e
      refine Or.inr ⟨a, ha, hm a wL, wS, ?_, ?_, ?_, ?_, ?_, ?_, ?_, ?_, ?_, ?_, ?_, ?_, ?_⟩
      · rw [xa 0 (by decide) (by decide) (by decide)]; exact w0
      · rw [xa 1 (by decide) (by decide) (by decide)]; exact wsh
      · rw [xa 1 (by decide) (by decide) (by decide), mk 4 (by decide) (by decide) (by decide)]; exact w4
      · rw [xa 2 (by decide) (by decide) (by decide), mk 7 (by decide) (by decide) (by decide)]; exact w7
      · rw [xa 3 (by decide) (by decide) (by decide), mk 2 (by decide) (by decide) (by decide)]; exact w3
      · rw [x4, m3, pk_us]
      · rw [x5, m5, pk_us]
      · rw [x6, m6, pk_us]
      · rw [xa 10 (by decide) (by decide) (by decide)]; exact w10
      · rw [xa 11 (by decide) (by decide) (by decide)]; exact w11
      · rw [mk 2 (by decide) (by decide) (by decide)]; exact wn
      · rw [mk 2 (by decide) (by decide) (by decide), hu]; exact wh
      · rw [m3, m5, m6, pk_us, pk_us, pk_us]; exact hpf
    · rcases hW j hj with r | ⟨b, r1, r2⟩
      · exact Or.inl r
      · have hba : b ≠ a := fun q => by
          have r3 := r2.2.2.1
          rw [q, w0] at r3
          exact e (nI_inj (by omega) (by omega) r3).symm
        refine Or.inr ⟨b, r1, RW1_c r2 hm rfl (fun f _ => xb b f hba) (fun k hk => ?_) hu⟩
        by_cases k3 : k = 3
        · rw [k3, m3, pk_un e]
        by_cases k5 : k = 5
        · rw [k5, m5, pk_un e]
        by_cases k6 : k = 6
        · rw [k6, m6, pk_un e]
        rw [mk k k3 k5 k6]
  · intro j hj
    rw [x21, mk 8 (by decide) (by decide) (by decide)]
    rcases hD j hj with r | ⟨b, r1, r2⟩
    · exact Or.inl r
    · have hba := hne b r2.2.1
      exact Or.inr ⟨b, r1, RD1_c r2 hm rfl (Nat.le_refl _) (fun f _ => xb b f hba) (by rw [mk 8 (by decide) (by decide) (by decide)]) (by rw [mk 9 (by decide) (by decide) (by decide)]) (fun i hi r => ⟨i, by rw [mr]; exact hi, by rw [x21]; exact r⟩)⟩
  · intro i hi
    rw [x21, mr]
    refine ⟨fun r => ?_, (hK i hi).2⟩
    obtain ⟨b, r1, r2⟩ := (hK i hi).1 r
    have hba := hne b r2.2.1
    exact ⟨b, r1, RK1_c r2 hm rfl (Nat.le_refl _) (fun f _ => xb b f hba) (fun w _ => by rw [mk 10 (by decide) (by decide) (by decide)])⟩
  · intro i j
    rw [x21, mr]
    exact hJ i j
  · exact ⟨fun b => by rw [xL]; exact hS.1 b, fun b c => by rw [xL]; exact hS.2 b c⟩
