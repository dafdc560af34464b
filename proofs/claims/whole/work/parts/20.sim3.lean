theorem m_upL_c {m m' : MS} (h : m'.1 0 = m.1 0) : ∀ (f k : Nat) (v : Int32), m_upL m' f k v = m_upL m f k v := by
  intro f
  induction f with
  | zero => intro k v; rfl
  | succ f ih =>
    intro k v
    unfold m_upL
    rw [h, ih]
theorem m_up_c {m m' : MS} (h : m'.1 0 = m.1 0) : m_up m' = m_up m := by
  unfold m_up
  rw [h]
theorem sumN_upd {f g : Nat → Nat} {j : Nat} (h1 : g j = f j + 1) (h2 : ∀ i, i ≠ j → g i = f i) : ∀ N, sumN g N = sumN f N + (if j < N then 1 else 0) := by
  intro N
  induction N with
  | zero => rfl
  | succ N ih =>
    unfold sumN
    rw [ih]
    by_cases e : N = j
    · subst e
      rw [h1, if_neg (by omega), if_pos (by omega)]
      omega
    · rw [h2 N e]
      by_cases q : j < N
      · rw [if_pos q, if_pos (by omega)]; omega
      · rw [if_neg q, if_neg (by omega)]; omega
theorem nI_inj {a b : Nat} (ha : a < 2 ^ 31) (hb : b < 2 ^ 31) (h : nI a = nI b) : a = b := (nI_eq ha hb).mp h
theorem RW_at {x : XS} {m : MS} {sr : Nat → Nat} {n a : Nat} (h : RW x m sr) (hn : n < 100) (ha : x.2.1 0 n = some a) : RW1 x m sr n a := by
  rcases h n hn with q | ⟨b, hb, q⟩
  · rw [ha] at q; cases q.1
  · rw [ha] at hb; cases hb; exact q
theorem RD_at {x : XS} {m : MS} {sr : Nat → Nat} {T n a : Nat} (h : RD x m sr T) (hn : n < 100) (ha : x.2.1 1 n = some a) : RD1 x m sr T n a := by
  rcases h n hn with q | ⟨b, hb, q⟩
  · rw [ha] at q; cases q.1
  · rw [ha] at hb; cases hb; exact q
theorem RR_T {x x' : XS} {m m' : MS} {sr : Nat → Nat} {T : Nat} (h : RR x m sr T) (hT : TM x' m') (h1 : x'.2.1 = x.2.1) (h2 : x'.2.2.2 = x.2.2.2) (h3 : ∀ k, k < 4 → x'.1 k = x.1 k) (h4 : ∀ k, k ≠ 11 → m'.1 k = m.1 k) (h5 : m'.2.1 = m.2.1) (h6 : m'.2.2.2 = m.2.2.2) : RR x' m' sr T := by
  obtain ⟨⟨a1, a2, a3, a4, a5, a6⟩, hW, hD, hK, hJ, hS⟩ := h
  have hc : ∀ a f, cf x' a f = cf x a f := fun a f => by unfold cf; rw [h2]
  have hm : ∀ b, b ∈ x.2.2.2.1 → b ∈ x'.2.2.2.1 := fun b hb => by rw [h2]; exact hb
  have hu : m_up m' = m_up m := m_up_c (h4 0 (by decide))
  refine ⟨⟨?_, hT, ?_, ?_, ?_, ?_⟩, ?_, ?_, ?_, ?_, ?_⟩
  · rw [h3 0 (by decide), h4 0 (by decide)]; exact a1
  · rw [h3 2 (by decide), h4 2 (by decide), h4 13 (by decide), h5, h6, m_upL_c (h4 0 (by decide))]; exact a3
  · rw [h3 3 (by decide), h4 12 (by decide)]; exact a4
  · rw [h4 13 (by decide)]; exact a5
  · rw [h4 12 (by decide)]; exact a6
  · intro n hn
    rw [h1, h4 2 (by decide)]
    rcases hW n hn with q | ⟨a, q1, q2⟩
    · exact Or.inl q
    · exact Or.inr ⟨a, q1, RW1_c q2 hm rfl (fun f _ => hc a f) (fun j hj => by rw [h4 j (by omega)]) hu⟩
  · intro n hn
    rw [h1, h4 8 (by decide)]
    rcases hD n hn with q | ⟨a, q1, q2⟩
    · exact Or.inl q
    · exact Or.inr ⟨a, q1, RD1_c q2 hm rfl (Nat.le_refl _) (fun f _ => hc a f) (by rw [h4 8 (by decide)]) (by rw [h4 9 (by decide)]) (fun i hi q => ⟨i, by rw [h6]; exact hi, by rw [h1]; exact q⟩)⟩
  · intro i hi
    rw [h1, h6]
    refine ⟨fun q => ?_, (hK i hi).2⟩
    obtain ⟨a, q1, q2⟩ := (hK i hi).1 q
    exact ⟨a, q1, RK1_c q2 hm rfl (Nat.le_refl _) (fun f _ => hc a f) (fun w _ => by rw [h4 10 (by decide)])⟩
  · intro i j
    rw [h1, h6]
    exact hJ i j
  · exact ⟨fun a => by rw [h2]; exact hS.1 a, fun a b => by rw [h2]; exact hS.2 a b⟩
theorem RR_D {x : XS} {m : MS} {sr : Nat → Nat} {T n a sh z : Nat} (tn : Bool) (h : RR x m sr T) (hn : n < 100) (hT : T < 2 ^ 30) (ha : x.2.1 0 n = some a) (hs : sh < 5) : RR (xD x a n sh z tn) (mD m n sh z tn) (va_up sr a (T + 1)) (T + 1) := by
  obtain ⟨⟨a1, a2, ⟨b0, b1, b2, b3, b4, b5, b6⟩, a4, a5, sN, s1, s2⟩, hW, hD, hK, hJ, hS⟩ := h
  have w1 := RW_at hW hn ha
  have hwt := TM_weigh (x := x_d1 x a n tn) (m := m) (nI z) tn hs ⟨fun w hw => by show (x_stop x n).1 1 w = _; rw [x_stop, xsub, xset_k (by decide)]; exact a2.1 w hw, fun s w q1 q2 => by show (x_stop x n).1 (4 + s) w = _; rw [x_stop, xsub, xset_k (by omega)]; exact a2.2.1 s w q1 q2, a2.2.2⟩
  have X := xD_x (x := x) (a := a) (n := n) (z := z) (tn := tn) hs
  have M := m_decA_x (m := m) (n := n) (sh := sh) (z := z) (tn := tn)
  generalize hxw : x_weigh (x_d1 x a n tn) sh (nI z) tn = xw' at hwt X
  generalize hmw : m_weight m sh (nI z) tn = mw' at hwt M
  generalize xD x a n sh z tn = u at X
  generalize mD m n sh z tn = v at M
  obtain ⟨X0, X1, X3, X2, XT, XW, XD, XK, XM, XL, Xb, Xa, X7, X8, X9⟩ := X
  obtain ⟨M8, M9, M11, M12, M13, Mn, Mt, Mk, M2, Mo⟩ := M
  have hm : ∀ b, b ∈ x.2.2.2.1 → b ∈ u.2.2.2.1 := fun b hb => by rw [XL]; exact hb
  have hu : m_up v = m_up m := m_up_c (Mo 0 (by omega))
  obtain ⟨wL, wS, w0, wsh, w4, w7, w3, wp, w5, w6, w10, w11, wn, wh, wPF⟩ := w1
  have hcd := cntW_del hn wn
  have hsl := stp_lt z
  have hne : ∀ b, 1 ≤ sr b → b ≠ a := fun b hb e => by rw [e, wS] at hb; omega
  refine ⟨⟨?_, ⟨?_, ?_, ?_⟩, ⟨?_, ?_, ?_, ?_, ?_, ?_, ?_⟩, ?_, ?_, ?_⟩, ?_, ?_, ?_, ?_, ?_⟩
  · rw [X0, Mo 0 (by omega)]; exact a1
  · rw [X1, Mo 1 (by omega)]; exact a2.1
  · intro s w q1 q2
    rw [XT, M11]
    by_cases e : s = sh ∧ w = 0
    · rw [if_pos e, e.1, e.2, Nat.add_zero, pk_us, hwt.2.2.1 sh 0 hs (by decide)]; rfl
    · rw [if_neg e, pk_un (by omega)]; exact hwt.2.2.1 s w q1 q2
  · rw [XM, Mt]; exact hwt.2.2.2
  · rw [X2, if_neg (by decide), if_neg (by decide), if_neg (by decide), Mn]; exact b0
  · rw [X2, if_neg (by decide), if_neg (by decide), if_pos rfl, M2, b1, ← hcd, pk_sub (by omega), Nat.add_sub_cancel]
  · rw [M2]; omega
  · rw [X2, if_neg (by decide), if_neg (by decide), if_neg (by decide), Mk]; exact b3
  · rw [Mk]; exact b4
  · intro w q1 q2
    rw [X2, M13, if_neg (show ¬ w = 1 by omega), b5 10 (by omega) (by omega), b5 11 (by omega) (by omega), b5 w q1 q2]
  · rw [X2, if_neg (by decide), if_neg (by decide), if_neg (by decide), m_upL_c (Mo 0 (by omega))]; exact b6
  · intro j hj
    rw [X3, M12]
    by_cases e : j = stp z
    · rw [e, pk_us, pk_us, a4 _ hsl]
    · rw [pk_un e, pk_un e]; exact a4 j hj
  · rw [M13, if_pos rfl, a5, nI_add]
  · refine ⟨fun j => if j = stp z then sN j + 1 else sN j, fun j hj => ?_, ?_⟩
    · rw [M12]
      show _ = nI (if j = stp z then sN j + 1 else sN j)
      by_cases e : j = stp z
      · rw [e, pk_us, if_pos rfl, s1 _ hsl, nI_add]
      · rw [pk_un e, if_neg e]; exact s1 j hj
    · rw [sumN_upd (f := sN) (j := stp z) (by simp) (fun i hi => by simp [hi]), if_pos hsl, s2]
  · intro j hj
    rw [XW, M2]
    by_cases e : j = n
    · subst e; rw [va_up_self, pk_us]; exact Or.inl ⟨rfl, rfl⟩
    · rw [va_up_ne _ _ e, pk_un e]
      rcases hW j hj with q | ⟨b, q1, q2⟩
      · exact Or.inl q
      · have hba : b ≠ a := fun q => by
          have r1 := q2.2.2.1
          rw [q, w0] at r1
          exact e (nI_inj (by omega) (by omega) r1).symm
        refine Or.inr ⟨b, q1, RW1_c q2 hm (va_up_ne _ _ hba) (fun f _ => Xb b f hba) (fun k hk => ?_) hu⟩
        by_cases k2 : k = 2
        · rw [k2, M2, pk_un e]
        · rw [Mo k (by omega)]
  · intro j hj
    rw [XD, M8]
    by_cases e : j = n
    · subst e
      rw [va_up_self, pk_us]
      refine Or.inr ⟨a, rfl, hm a wL, by rw [va_up_self]; omega, by rw [va_up_self]; omega, by rw [Xa 0 (by omega)]; exact w0, Or.inl ⟨by rw [Xa 11 (by omega)]; exact w11, by rw [M8, pk_us, va_up_self, a5, nI_add], by rw [X7, M9, pk_us]; exact b0⟩, Or.inl (by rw [Xa 10 (by omega)]; exact w10)⟩
    · rw [va_up_ne _ _ e, pk_un e]
      rcases hD j hj with q | ⟨b, q1, q2⟩
      · exact Or.inl q
      · have hba := hne b q2.2.1
        exact Or.inr ⟨b, q1, RD1_c q2 hm (va_up_ne _ _ hba) (by omega) (fun f _ => Xb b f hba) (by rw [M8, pk_un e]) (by rw [M9, pk_un e]) (fun i hi q => ⟨i, by rw [Mk]; exact hi, by rw [XK]; exact q⟩)⟩
  · intro i hi
    rw [XK, Mk]
    refine ⟨fun q => ?_, (hK i hi).2⟩
    obtain ⟨b, q1, q2⟩ := (hK i hi).1 q
    have hba := hne b q2.2.1
    exact ⟨b, q1, RK1_c q2 hm (va_up_ne _ _ hba) (by omega) (fun f _ => Xb b f hba) (fun w _ => by rw [Mo 10 (by omega)])⟩
  · intro i j
    rw [XK, Mk]
    exact hJ i j
  · refine ⟨fun b hb => ?_, fun b c hb hc h1 h2 => ?_⟩
    · rw [XL] at hb
      by_cases e : b = a
      · rw [e, va_up_self]; exact Nat.le_refl _
      · rw [va_up_ne _ _ e]; have := hS.1 b hb; omega
    · rw [XL] at hb hc
      by_cases e1 : b = a <;> by_cases e2 : c = a
      · rw [e1, e2]
      · rw [e1, va_up_self, va_up_ne _ _ e2] at h2
        have := hS.1 c hc
        omega
      · rw [e2, va_up_self, va_up_ne _ _ e1] at h2
        have := hS.1 b hb
        omega
      · rw [va_up_ne _ _ e1] at h1 h2
        rw [va_up_ne _ _ e2] at h2
        exact hS.2 b c hb hc h1 h2
