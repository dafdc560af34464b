/-! keeping, on both sides -/
def m_r8 (s8 : MS) (km n sh : Nat) (tn : Bool) (w : Int32) : MS := mcp (mnw (mset (mset (mcp (mset (mcp (mset s8 10 (8 * km) (nI n)) 10 (8 * km + 1) 3 n) 10 (8 * km + 2) (nI sh)) 10 (8 * km + 3) 5 n) 10 (8 * km + 4) w) 10 (8 * km + 5) (bI tn)) 10 (8 * km + 6)) 10 (8 * km + 7) 13 10
theorem m_r8_k (s8 : MS) (km n sh : Nat) (tn : Bool) (w : Int32) : (m_r8 s8 km n sh tn w).2 = s8.2 ∧ (∀ k, k ≠ 10 → (m_r8 s8 km n sh tn w).1 k = s8.1 k) ∧ (∀ i, i < 8 * km ∨ 8 * km + 8 ≤ i → (m_r8 s8 km n sh tn w).1 10 i = s8.1 10 i) ∧ (m_r8 s8 km n sh tn w).1 10 (8 * km) = nI n ∧ (m_r8 s8 km n sh tn w).1 10 (8 * km + 1) = s8.1 3 n ∧ (m_r8 s8 km n sh tn w).1 10 (8 * km + 2) = nI sh ∧ (m_r8 s8 km n sh tn w).1 10 (8 * km + 3) = s8.1 5 n ∧ (m_r8 s8 km n sh tn w).1 10 (8 * km + 4) = w ∧ (m_r8 s8 km n sh tn w).1 10 (8 * km + 5) = bI tn ∧ (m_r8 s8 km n sh tn w).1 10 (8 * km + 6) = s8.2.1 ∧ (m_r8 s8 km n sh tn w).1 10 (8 * km + 7) = s8.1 13 10 := by
  unfold m_r8 mcp mnw
  refine ⟨rfl, fun k hk => by simp only [mset_k hk], fun i hi => ?_, ?_, ?_, ?_, ?_, ?_, ?_, ?_, ?_⟩
  · rw [mset_a, pk_un (by omega), mset_a, pk_un (by omega), mset_a, pk_un (by omega), mset_a, pk_un (by omega), mset_a, pk_un (by omega), mset_a, pk_un (by omega), mset_a, pk_un (by omega), mset_a, pk_un (by omega)]
  · rw [mset_a, pk_un (by omega), mset_a, pk_un (by omega), mset_a, pk_un (by omega), mset_a, pk_un (by omega), mset_a, pk_un (by omega), mset_a, pk_un (by omega), mset_a, pk_un (by omega), mset_s]
  · rw [mset_a, pk_un (by omega), mset_a, pk_un (by omega), mset_a, pk_un (by omega), mset_a, pk_un (by omega), mset_a, pk_un (by omega), mset_a, pk_un (by omega), mset_s, mset_k (by decide)]
  · rw [mset_a, pk_un (by omega), mset_a, pk_un (by omega), mset_a, pk_un (by omega), mset_a, pk_un (by omega), mset_a, pk_un (by omega), mset_s]
  · rw [mset_a, pk_un (by omega), mset_a, pk_un (by omega), mset_a, pk_un (by omega), mset_a, pk_un (by omega), mset_s, mset_k (by decide), mset_k (by decide), mset_k (by decide)]
  · rw [mset_a, pk_un (by omega), mset_a, pk_un (by omega), mset_a, pk_un (by omega), mset_s]
  · rw [mset_a, pk_un (by omega), mset_a, pk_un (by omega), mset_s]
  · rw [mset_a, pk_un (by omega), mset_s]
    rfl
  · rw [mset_s]
    simp only [mset_k (show (13 : Nat) ≠ 10 by decide)]
theorem TM_add {x : XS} {m : MS} {s i : Nat} (w : Int32) (hs : s < 5) (hi : i < 7) (h : TM x m) : TM (xadd x (4 + s) i w) (madd m 11 (7 * s + i) w) := by
  unfold xadd madd
  rw [h.2.1 s i hs hi]
  exact TM_set hs hi h
theorem RR_row {x : XS} {m : MS} {sr : Nat → Nat} {T n a sh : Nat} {tn : Bool} {w : Int32} (h : RR x m sr T) (hn : n < 100) (hs : sh < 5) (hT1 : 1 ≤ T) (hk : m.2.2.2 < 20) (hL : a ∈ x.2.2.2.1) (hsr : sr a = T) (h10 : cf x a 10 = nI 0) (h11 : cf x a 11 = nI 0) (h9 : cf x a 9 = bI tn) (h8 : cf x a 8 = w) (h1 : cf x a 1 = nI sh) (h0 : cf x a 0 = nI n) (h4 : cf x a 4 = m.1 3 n) (h5 : cf x a 5 = m.1 5 n) (h7 : cf x a 7 = m.2.1) (h4p : ∃ pn, pn < 256 ∧ cf x a 4 = nI pn) : RR (xc (xinc (xrf x 2 m.2.2.2 (some a)) 2 2) a 10 (nI 1)) (mkm (m_r8 m m.2.2.2 n sh tn w) (m.2.2.2 + 1)) sr T := by
  obtain ⟨⟨a1, a2, ⟨b0, b1, b2, b3, b4, b5, b6⟩, a4, a5, a6⟩, hW, hD, hK, hJ, hS⟩ := h
  generalize hkm : m.2.2.2 = km at hk b3 b4
  obtain ⟨r2, rk, ro, e0, e1, e2, e3, e4, e5, e6, e7⟩ := m_r8_k m km n sh tn w
  generalize m_r8 m km n sh tn w = v at r2 rk ro e0 e1 e2 e3 e4 e5 e6 e7
  have vk : ∀ k, k ≠ 10 → (mkm v (km + 1)).1 k = m.1 k := rk
  have xk : ∀ k, k ≠ 2 → (xc (xinc (xrf x 2 km (some a)) 2 2) a 10 (nI 1)).1 k = x.1 k := fun k hk => by
    show (xinc (xrf x 2 km (some a)) 2 2).1 k = _
    rw [xinc, xset_k hk]
    rfl
  have x2 : ∀ w, (xc (xinc (xrf x 2 km (some a)) 2 2) a 10 (nI 1)).1 2 w = if w = 2 then x.1 2 2 + nI 1 else x.1 2 w := fun w => by
    show (xinc (xrf x 2 km (some a)) 2 2).1 2 w = _
    rw [xinc, xset_a]
    by_cases e : w = 2
    · rw [e, pk_us, if_pos rfl]; rfl
    · rw [pk_un e, if_neg e]; rfl
  have xr0 : (xc (xinc (xrf x 2 km (some a)) 2 2) a 10 (nI 1)).2.1 0 = x.2.1 0 := rfl
  have xr1 : (xc (xinc (xrf x 2 km (some a)) 2 2) a 10 (nI 1)).2.1 1 = x.2.1 1 := rfl
  have xr2 : (xc (xinc (xrf x 2 km (some a)) 2 2) a 10 (nI 1)).2.1 2 = va_up (x.2.1 2) km (some a) := rfl
  have xL : (xc (xinc (xrf x 2 km (some a)) 2 2) a 10 (nI 1)).2.2.2.1 = x.2.2.2.1 := rfl
  have xM : (xc (xinc (xrf x 2 km (some a)) 2 2) a 10 (nI 1)).2.2.1 = x.2.2.1 := rfl
  have xcb : ∀ b f, b ≠ a → cf (xc (xinc (xrf x 2 km (some a)) 2 2) a 10 (nI 1)) b f = cf x b f := fun b f hb => (cf_b hb).trans rfl
  have xca : ∀ f, f ≠ 10 → cf (xc (xinc (xrf x 2 km (some a)) 2 2) a 10 (nI 1)) a f = cf x a f := fun f hf => (cf_ne hf).trans rfl
  have xc10 : cf (xc (xinc (xrf x 2 km (some a)) 2 2) a 10 (nI 1)) a 10 = nI 1 := cf_eq
  generalize xc (xinc (xrf x 2 km (some a)) 2 2) a 10 (nI 1) = u at xk x2 xr0 xr1 xr2 xL xM xcb xca xc10
  have hm : ∀ b, b ∈ x.2.2.2.1 → b ∈ u.2.2.2.1 := fun b hb => by rw [xL]; exact hb
  have vkm : (mkm v (km + 1)).2.2.2 = km + 1 := rfl
  have vn : (mkm v (km + 1)).2.1 = m.2.1 := by show v.2.1 = _; rw [r2]
  have vt : (mkm v (km + 1)).2.2.1 = m.2.2.1 := by show v.2.2.1 = _; rw [r2]
  have v10 : (mkm v (km + 1)).1 10 = v.1 10 := rfl
  have hu : m_up (mkm v (km + 1)) = m_up m := m_up_c (vk 0 (by decide))
  have hrow : ∀ i, i < km → ∀ b, x.2.1 2 i = some b → b ≠ a := fun i hi b hb e => by
    obtain ⟨c, q1, q2⟩ := (hK i (by omega)).1 (by omega)
    rw [q1] at hb
    cases hb
    have := q2.2.2.2.2.2.1
    rw [e, h10] at this
    exact absurd this (by decide)
  generalize mkm v (km + 1) = v' at vk vkm vn vt v10 hu
  refine ⟨⟨?_, ⟨?_, ?_, ?_⟩, ⟨?_, ?_, ?_, ?_, ?_, ?_, ?_⟩, ?_, ?_, ?_⟩, ?_, ?_, ?_, ?_, ?_⟩
  · rw [xk 0 (by decide), vk 0 (by decide)]; exact a1
  · rw [xk 1 (by decide), vk 1 (by decide)]; exact a2.1
  · intro s w q1 q2
    rw [xk (4 + s) (by omega), vk 11 (by decide)]; exact a2.2.1 s w q1 q2
  · rw [xM, vt]; exact a2.2.2
  · rw [x2, if_neg (by decide), vn]; exact b0
  · rw [x2, if_neg (by decide), vk 2 (by decide)]; exact b1
  · rw [vk 2 (by decide)]; exact b2
  · rw [x2, if_pos rfl, vkm, b3, nI_add]
  · rw [vkm]; omega
  · intro w q1 q2
    rw [x2, if_neg (by omega), vk 13 (by decide)]; exact b5 w q1 q2
  · rw [x2, if_neg (by decide), m_upL_c (vk 0 (by decide))]; exact b6
  · rw [xk 3 (by decide), vk 12 (by decide)]; exact a4
  · rw [vk 13 (by decide)]; exact a5
  · rw [vk 12 (by decide)]; exact a6
  · intro j hj
    rw [xr0, vk 2 (by decide)]
    rcases hW j hj with q | ⟨b, q1, q2⟩
    · exact Or.inl q
    · have hba : b ≠ a := fun q => by
        have := q2.2.1
        rw [q, hsr] at this
        omega
      exact Or.inr ⟨b, q1, RW1_c q2 hm rfl (fun f _ => xcb b f hba) (fun k hk => by rw [vk k (by omega)]) hu⟩
  · intro j hj
    rw [xr1, vk 8 (by decide)]
    rcases hD j hj with q | ⟨b, q1, q2⟩
    · exact Or.inl q
    · refine Or.inr ⟨b, q1, ?_⟩
      by_cases hba : b = a
      · subst hba
        obtain ⟨d1, d2, d3, d4, d5, d6⟩ := q2
        exact ⟨hm b d1, d2, d3, by rw [xca 0 (by decide)]; exact d4, by rw [xca 11 (by decide), xca 7 (by decide), vk 8 (by decide), vk 9 (by decide)]; exact d5, Or.inr ⟨km, by rw [vkm]; omega, by rw [xr2, va_up_self]⟩⟩
      · exact RD1_c q2 hm rfl (Nat.le_refl _) (fun f _ => xcb b f hba) (by rw [vk 8 (by decide)]) (by rw [vk 9 (by decide)]) (fun i hi q => ⟨i, by rw [vkm]; omega, by rw [xr2, va_up_ne _ _ (by omega)]; exact q⟩)
  · intro i hi
    rw [xr2, vkm]
    refine ⟨fun q => ?_, fun q => ?_⟩
    · by_cases e : i = km
      · subst e
        rw [va_up_self]
        refine ⟨a, rfl, hm a hL, by omega, by omega, ⟨n, hn, by rw [xca 0 (by decide)]; exact h0⟩, ⟨⟨sh, hs, by rw [xca 1 (by decide)]; exact h1⟩, by rw [xca 4 (by decide)]; exact h4p⟩, xc10, by rw [xca 11 (by decide)]; exact h11, ?_, ?_, ?_, ?_, ?_, ?_, ?_, ?_, ?_⟩
        · rw [xca 9 (by decide), h9]
          cases tn
          · exact Or.inl rfl
          · exact Or.inr rfl
        · rw [v10, e0, xca 0 (by decide), h0]
        · rw [v10, e1, xca 4 (by decide), h4]
        · rw [v10, e2, xca 1 (by decide), h1]
        · rw [v10, e3, xca 5 (by decide), h5]
        · rw [v10, e4, xca 8 (by decide), h8]
        · rw [v10, e5, xca 9 (by decide), h9]
        · rw [v10, e6, xca 7 (by decide), h7]
        · rw [v10, e7, hsr]; exact a5
      · rw [va_up_ne _ _ e]
        obtain ⟨b, q1, q2⟩ := (hK i hi).1 (by omega)
        have hba := hrow i (by omega) b q1
        exact ⟨b, q1, RK1_c q2 hm rfl (Nat.le_refl _) (fun f _ => xcb b f hba) (fun w hw => by rw [v10]; exact ro _ (by omega))⟩
    · rw [va_up_ne _ _ (by omega)]
      exact (hK i hi).2 (by omega)
  · intro i j
    rw [xr2, vkm]
    intro hi hj
    by_cases e1 : i = km <;> by_cases e2 : j = km
    · intro _; omega
    · rw [e1, va_up_self, va_up_ne _ _ e2]
      intro q
      exact absurd rfl (hrow j (by omega) a q.symm)
    · rw [e2, va_up_self, va_up_ne _ _ e1]
      intro q
      exact absurd rfl (hrow i (by omega) a q)
    · rw [va_up_ne _ _ e1, va_up_ne _ _ e2]
      exact hJ i j (by omega) (by omega)
  · exact ⟨fun b => by rw [xL]; exact hS.1 b, fun b c => by rw [xL]; exact hS.2 b c⟩
/-- a call that waits is decided on both sides -/
theorem RR_dec {x : XS} {m : MS} {sr : Nat → Nat} {T n a : Nat} (tn : Bool) (h : RR x m sr T) (hn : n < 100) (hT : T < 2 ^ 30) (ha : x.2.1 0 n = some a) : RR (x_dec x a tn) (m_dec m n tn) (va_up sr a (T + 1)) (T + 1) ∧ (x_dec x a tn).2.2.2.1 = x.2.2.2.1 := by
  have w1 := RW_at h.2.1 hn ha
  obtain ⟨wL, wS, w0, ⟨sh, hs, wsh⟩, w4, w7, w3, wp, w5, w6, w10, w11, wn, wh, wPF⟩ := w1
  obtain ⟨z, hz, hz5⟩ := PF_z wPF
  have h5 : cf x a 5 = nI z := w5.trans hz5
  have b3 := h.1.2.2.1.2.2.2.1
  have b4 := h.1.2.2.1.2.2.2.2.1
  have ex : x_dec x a tn = x_decS x a n sh z tn m.2.2.2 := by rw [x_dec, w0, wsh, h5, b3, nI_clamp (by omega), nI_clamp (by omega), nI_clamp (by omega), nI_clamp (by omega)]
  have em : m_dec m n tn = m_decS m n sh z tn := by rw [m_dec, ← w4, wsh, hz5, nI_clamp (by omega), nI_clamp (by omega)]
  refine ⟨?_, by rw [ex]; exact (x_decS_2 x a n sh z tn m.2.2.2).1⟩
  have hD := RR_D (z := z) tn h hn hT ha hs
  have a2 := h.1.2.1
  have hwt := TM_weigh (x := x_d1 x a n tn) (m := m) (nI z) tn hs ⟨fun w hw => by show (x_stop x n).1 1 w = _; rw [x_stop, xsub, xset_k (by decide)]; exact a2.1 w hw, fun s w q1 q2 => by show (x_stop x n).1 (4 + s) w = _; rw [x_stop, xsub, xset_k (by omega)]; exact a2.2.1 s w q1 q2, a2.2.2⟩
  have X := xD_x (x := x) (a := a) (n := n) (z := z) (tn := tn) hs
  have M := m_decA_x (m := m) (n := n) (sh := sh) (z := z) (tn := tn)
  have e1 : x_decS x a n sh z tn m.2.2.2 = x_fin (xD x a n sh z tn) a sh m.2.2.2 (x_weigh (x_d1 x a n tn) sh (nI z) tn).1 := rfl
  have e2 : m_decS m n sh z tn = m_keep (mD m n sh z tn) n sh tn (m_weight m sh (nI z) tn).1 := rfl
  rw [ex, em, e1, e2, ← hwt.1]
  obtain ⟨X0, X1, X3, X2, XT, XW, XD, XK, XM, XL, Xb, Xa, X7, X8, X9⟩ := X
  obtain ⟨M8, M9, M11, M12, M13, Mn, Mt, Mk, M2, Mo⟩ := M
  generalize (x_weigh (x_d1 x a n tn) sh (nI z) tn).1 = w at X8
  generalize xD x a n sh z tn = u at *
  generalize mD m n sh z tn = v at *
  unfold x_fin m_keep
  by_cases hw : w ≤ 0
  · rw [if_pos hw, if_pos hw]; exact hD
  · rw [if_neg hw, if_neg hw, ← Mk]
    unfold x_keepS
    by_cases hk : v.2.2.2 = 20
    · rw [if_pos (by omega), if_pos hk]
      exact RR_T hD (TM_add w hs (by decide) hD.1.2.1) rfl rfl (fun k hk => xset_k (by omega)) (fun k hk => mset_k hk) rfl rfl
    · have hkm : v.2.2.2 < 20 := by rw [Mk]; rw [Mk] at hk; omega
      rw [if_neg (by omega), if_neg hk]
      have hr := RR_row (n := n) (sh := sh) (tn := tn) (w := w) (a := a) hD hn hs (by omega) hkm (by rw [XL]; exact wL) (by rw [va_up_self]) (by rw [Xa 10 (by omega)]; exact w10) (by rw [Xa 11 (by omega)]; exact w11) X9 X8 (by rw [Xa 1 (by omega)]; exact wsh) (by rw [Xa 0 (by omega)]; exact w0) (by rw [Xa 4 (by omega), Mo 3 (by omega)]; exact wp) (by rw [Xa 5 (by omega), Mo 5 (by omega)]; exact w5) (by rw [X7, Mn]; exact h.1.2.2.1.1) (by rw [Xa 4 (by omega), wp]; obtain ⟨pn, zn, p1, p2, -⟩ := wPF; exact ⟨pn, p1, p2⟩)
      have e3 : m_row v n sh tn w = madd (mkm (m_r8 v v.2.2.2 n sh tn w) (v.2.2.2 + 1)) 11 (7 * sh + 1) w := rfl
      rw [e3]
      exact RR_T hr (TM_add w hs (by decide) hr.1.2.1) rfl rfl (fun k hk => xset_k (by omega)) (fun k hk => mset_k hk) rfl rfl
