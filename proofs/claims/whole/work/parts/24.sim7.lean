theorem PF_wh {p z l : Int32} (h : PF p z l) : x_whole l p = true ↔ (¬ l = -9 ∧ p = (nI 1 <<< ((l + nI 1) &&& 31)) - nI 1) := by
  obtain ⟨pn, zn, h1, rfl, rfl, h4, h5⟩ := h
  rcases h5 with h5 | ⟨ln, l1, l2, l3, l4⟩
  · rw [h5]; unfold x_whole; simp
  · rw [l2]
    have ew := bt_wh pn h1 ln l1 l4
    rw [decide_eq_decide] at ew
    unfold x_whole
    rw [decide_eq_true_eq, ew]
/-- what the reference holds behind a piece's counting -/
noncomputable def m_fin (r : Nat × MS) : MS := if 3 ≤ r.1 then m_inc r.2 13 (r.1 + 2) else r.2
theorem m_piece_eq (m : MS) (n q : Nat) (il : Bool) (sh z : Nat) : m_piece m n q il sh z = ((m_comes m n q il sh z).1, m_fin (m_comes m n q il sh z)) := by
  unfold m_piece m_fin
  dsimp only
  split <;> rfl
theorem join_sim {x : XS} {m : MS} {sr : Nat → Nat} {T n a q z : Nat} {il : Bool} (h : RR x m sr T) (hn : n < 100) (hT : T < 2 ^ 30) (hq : q < 8) (hz : z ≤ 1000) (ha : x.2.1 0 n = some a) : (x_hearW x a q il z).1 = (m_joins m n q il z).1 ∧ (x_hearW x a q il z).2.2.2.2.1 = x.2.2.2.1 ∧ ∃ sr' T', RR (x_hearW x a q il z).2 (m_fin (m_joins m n q il z)) sr' T' ∧ T' ≤ T + 1 := by
  have w1 := RW_at h.2.1 hn ha
  obtain ⟨wL, wS, w0, wsh, w4, w7, w3, wp, w5, w6, w10, w11, wn, wh, wPF⟩ := w1
  have hph := PF_has wPF hq
  unfold x_hearW m_joins
  rw [wp, w6]
  by_cases c1 : x_has (m.1 3 n) q = true
  · rw [if_pos c1, if_pos (hph.1.mpr c1)]
    exact ⟨rfl, rfl, sr, T, RR_cnt h (by decide) (by decide), by omega⟩
  · have c1f : x_has (m.1 3 n) q = false := by simpa using c1
    rw [if_neg c1, if_neg (fun r => c1 (hph.1.mp r))]
    have eo := PF_odd (il := il) wPF hq c1f
    rw [← eo]
    by_cases c2 : x_contr (m.1 6 n) (m.1 3 n) q il = true
    · rw [if_pos c2, if_pos c2]
      exact ⟨rfl, rfl, sr, T, RR_cnt h (by decide) (by decide), by omega⟩
    · rw [if_neg c2, if_neg c2]
      have c2f : x_contr (m.1 6 n) (m.1 3 n) q il = false := by simpa using c2
      obtain ⟨r1, r2⟩ := RR_joinW (il := il) h hn hq hz ha (by rw [wp]; exact c1f) (by rw [wp, w6]; exact c2f)
      have v1 := RW_at r1.2.1 hn r2
      have xL : (x_tk x a q il z).2.2.2.1 = x.2.2.2.1 := by unfold x_tk x_last; split <;> rfl
      have vp : cf (x_tk x a q il z) a 4 = (m_jn m n q il z).1 3 n := v1.2.2.2.2.2.2.2.1
      have v6 : cf (x_tk x a q il z) a 6 = (m_jn m n q il z).1 6 n := v1.2.2.2.2.2.2.2.2.2.1
      have vPF := v1.2.2.2.2.2.2.2.2.2.2.2.2.2.2
      have hwh := PF_wh vPF
      unfold x_takeIn
      rw [vp, v6]
      by_cases c3 : x_whole ((m_jn m n q il z).1 6 n) ((m_jn m n q il z).1 3 n) = true
      · rw [if_pos c3, if_pos (hwh.mp c3)]
        obtain ⟨d1, d2⟩ := RR_dec false r1 hn hT r2
        exact ⟨rfl, d2.trans xL, _, _, d1, Nat.le_refl _⟩
      · rw [if_neg c3, if_neg (fun r => c3 (hwh.mpr r))]
        exact ⟨rfl, xL, sr, T, r1, by omega⟩
theorem cf_born {x : XS} {a : Nat} {n sh k t : Int32} : cf (x_born x a n sh k t) a 0 = n ∧ cf (x_born x a n sh k t) a 1 = sh ∧ cf (x_born x a n sh k t) a 2 = t ∧ cf (x_born x a n sh k t) a 3 = k ∧ cf (x_born x a n sh k t) a 4 = nI 0 ∧ cf (x_born x a n sh k t) a 5 = nI 0 ∧ cf (x_born x a n sh k t) a 6 = -9 ∧ cf (x_born x a n sh k t) a 10 = nI 0 ∧ cf (x_born x a n sh k t) a 11 = nI 0 ∧ ∀ b f, b ≠ a → cf (x_born x a n sh k t) b f = cf x b f := by
  unfold x_born
  refine ⟨?_, ?_, ?_, ?_, ?_, ?_, ?_, ?_, ?_, ?_⟩
  · rw [cf_ne (by decide), cf_ne (by decide), cf_ne (by decide), cf_eq]
  · rw [cf_ne (by decide), cf_ne (by decide), cf_eq]
  · rw [cf_eq]
  · rw [cf_ne (by decide), cf_eq]
  · rw [cf_ne (by decide), cf_ne (by decide), cf_ne (by decide), cf_ne (by decide), cf_ne (by decide), cf_ne (by decide), cf_ne (by decide), cf_ne (by decide), cf_ne (by decide), cf_ne (by decide), cf_ne (by decide), cf_eq]
  · rw [cf_ne (by decide), cf_ne (by decide), cf_ne (by decide), cf_ne (by decide), cf_ne (by decide), cf_ne (by decide), cf_ne (by decide), cf_ne (by decide), cf_ne (by decide), cf_ne (by decide), cf_eq]
  · rw [cf_ne (by decide), cf_ne (by decide), cf_ne (by decide), cf_ne (by decide), cf_ne (by decide), cf_ne (by decide), cf_ne (by decide), cf_ne (by decide), cf_ne (by decide), cf_eq]
  · rw [cf_ne (by decide), cf_ne (by decide), cf_ne (by decide), cf_ne (by decide), cf_ne (by decide), cf_eq]
  · rw [cf_ne (by decide), cf_ne (by decide), cf_ne (by decide), cf_ne (by decide), cf_eq]
  · intro b f hb
    rw [cf_b hb, cf_b hb, cf_b hb, cf_b hb, cf_b hb, cf_b hb, cf_b hb, cf_b hb, cf_b hb, cf_b hb, cf_b hb, cf_b hb]
theorem RR_first {x : XS} {m : MS} {sr : Nat → Nat} {T n q0 sh : Nat} (h : RR x m sr T) (hn : n < 100) (hs : sh < 5) (hq0 : q0 ∉ x.2.2.2.1) (hw : x.2.1 0 n = none) (hh : ¬ hm (m_up m) n = -9) (h24 : cntW (m.1 2) < 24) : RR (x_first x q0 n sh) (m_first m n sh) (va_up sr q0 0) T ∧ (x_first x q0 n sh).2.1 0 n = some q0 ∧ (x_first x q0 n sh).2.2.2.1 = x.2.2.2.1 ++ [q0] := by
  have eh := hm_sim h n
  have hmn : m.1 2 n = -9 := by
    rcases h.2.1 n hn with r | ⟨b, r1, -⟩
    · exact r.2
    · rw [hw] at r1; cases r1
  obtain ⟨⟨a1, a2, ⟨b0, b1, b2, b3, b4, b5, b6⟩, a4, a5, a6⟩, hW, hD, hK, hJ, hS⟩ := h
  have cb := cf_born (x := xnew x q0) (a := q0) (n := nI n) (sh := nI sh) (k := hm (x_up x) n) (t := x.1 2 0)
  -- the class's side
  have x2 : ∀ w, (x_first x q0 n sh).1 2 w = if w = 1 then x.1 2 1 + nI 1 else x.1 2 w := by
    intro w
    rw [x_first, xinc, xset_a]
    by_cases e : w = 1
    · subst e; rw [pk_us, if_pos rfl]; rfl
    · rw [pk_un e, if_neg e]; rfl
  have xk : ∀ k, k ≠ 2 → (x_first x q0 n sh).1 k = x.1 k := fun k hk => by rw [x_first, xinc, xset_k hk]; rfl
  have xr0 : (x_first x q0 n sh).2.1 0 = va_up (x.2.1 0) n (some q0) := rfl
  have xr1 : (x_first x q0 n sh).2.1 1 = x.2.1 1 := rfl
  have xr2 : (x_first x q0 n sh).2.1 2 = x.2.1 2 := rfl
  have xm : (x_first x q0 n sh).2.2.1 = x.2.2.1 := rfl
  have xL : (x_first x q0 n sh).2.2.2.1 = x.2.2.2.1 ++ [q0] := rfl
  have xcf : ∀ b f, cf (x_first x q0 n sh) b f = cf (x_born (xnew x q0) q0 (nI n) (nI sh) (hm (x_up x) n) (x.1 2 0)) b f := fun _ _ => rfl
  have xb : ∀ b f, b ≠ q0 → cf (x_first x q0 n sh) b f = cf x b f := fun b f hb => by
    rw [xcf, cb.2.2.2.2.2.2.2.2.2 b f hb]
    show va_up x.2.2.2.2 q0 _ b f = _
    rw [va_up_ne _ _ hb]
  -- the reference's side
  have mk : ∀ k, (k ≠ 2 ∧ k ≠ 3 ∧ k ≠ 4 ∧ k ≠ 5 ∧ k ≠ 6 ∧ k ≠ 7) → (m_first m n sh).1 k = m.1 k := fun k hk => by rw [m_first, mnw, mset_k hk.2.2.2.2.2, mset_k hk.2.2.2.2.1, mset_k hk.2.2.2.1, mset_k hk.2.2.1, mset_k hk.2.1, mset_k hk.1]
  have m2 : (m_first m n sh).1 2 = upd (m.1 2) n (hm (m_up m) n) := by rw [m_first, mnw, mset_k (by decide), mset_k (by decide), mset_k (by decide), mset_k (by decide), mset_k (by decide), mset_a]
  have m3 : (m_first m n sh).1 3 = upd (m.1 3) n (nI 0) := by rw [m_first, mnw, mset_k (by decide), mset_k (by decide), mset_k (by decide), mset_k (by decide), mset_a, mset_k (by decide)]
  have m4 : (m_first m n sh).1 4 = upd (m.1 4) n (nI sh) := by rw [m_first, mnw, mset_k (by decide), mset_k (by decide), mset_k (by decide), mset_a, mset_k (by decide), mset_k (by decide)]
  have m5 : (m_first m n sh).1 5 = upd (m.1 5) n (nI 0) := by rw [m_first, mnw, mset_k (by decide), mset_k (by decide), mset_a, mset_k (by decide), mset_k (by decide), mset_k (by decide)]
  have m6 : (m_first m n sh).1 6 = upd (m.1 6) n (-9) := by rw [m_first, mnw, mset_k (by decide), mset_a, mset_k (by decide), mset_k (by decide), mset_k (by decide), mset_k (by decide)]
  have m7 : (m_first m n sh).1 7 = upd (m.1 7) n m.2.1 := by
    rw [m_first, mnw, mset_a, mset_k (by decide), mset_k (by decide), mset_k (by decide), mset_k (by decide), mset_k (by decide)]
    rfl
  have mr : (m_first m n sh).2 = m.2 := rfl
  generalize x_first x q0 n sh = u at x2 xk xr0 xr1 xr2 xm xL xcf xb
  generalize m_first m n sh = v at mk m2 m3 m4 m5 m6 m7 mr
  have hmm : ∀ b, b ∈ x.2.2.2.1 → b ∈ u.2.2.2.1 := fun b hb => by rw [xL]; exact List.mem_append_left _ hb
  have hu : m_up v = m_up m := m_up_c (mk 0 (by decide))
  have hne : ∀ b, b ∈ x.2.2.2.1 → b ≠ q0 := fun b hb e => hq0 (e ▸ hb)
  have hca := cntW_add (v := hm (m_up m) n) hn hmn hh
  refine ⟨⟨⟨?_, ⟨?_, ?_, ?_⟩, ⟨?_, ?_, ?_, ?_, ?_, ?_, ?_⟩, ?_, ?_, ?_⟩, ?_, ?_, ?_, ?_, ?_⟩, by rw [xr0, va_up_self], xL⟩
  · rw [xk 0 (by decide), mk 0 (by decide)]; exact a1
  · rw [xk 1 (by decide), mk 1 (by decide)]; exact a2.1
  · intro s w q1 q2
    rw [xk (4 + s) (by omega), mk 11 (by decide)]; exact a2.2.1 s w q1 q2
  · rw [xm, mr]; exact a2.2.2
  · rw [x2, if_neg (by decide), mr]; exact b0
  · rw [x2, if_pos rfl, m2, ← hca, b1, nI_add]
  · rw [m2]; omega
  · rw [x2, if_neg (by decide), mr]; exact b3
  · rw [mr]; exact b4
  · intro w q1 q2
    rw [x2, if_neg (by omega), mk 13 (by decide)]; exact b5 w q1 q2
  · rw [x2, if_neg (by decide), m_upL_c (mk 0 (by decide))]; exact b6
  · rw [xk 3 (by decide), mk 12 (by decide)]; exact a4
  · rw [mk 13 (by decide)]; exact a5
  · rw [mk 12 (by decide)]; exact a6
  · intro j hj
    rw [xr0, m2]
    by_cases e : j = n
    · subst e
      rw [va_up_self, pk_us]
      refine Or.inr ⟨q0, rfl, by rw [xL]; exact List.mem_append_right _ (List.mem_singleton.mpr rfl), va_up_self _ _ _, ?_, ?_, ?_, ?_, ?_, ?_, ?_, ?_, ?_, ?_, ?_, ?_, ?_⟩
      · rw [xcf]; exact cb.1
      · exact ⟨sh, hs, by rw [xcf]; exact cb.2.1⟩
      · rw [xcf, m4, pk_us]; exact cb.2.1
      · rw [xcf, m7, pk_us, cb.2.2.1]; exact b0
      · rw [xcf, m2, pk_us, cb.2.2.2.1]; exact eh
      · rw [xcf, m3, pk_us]; exact cb.2.2.2.2.1
      · rw [xcf, m5, pk_us]; exact cb.2.2.2.2.2.1
      · rw [xcf, m6, pk_us]; exact cb.2.2.2.2.2.2.1
      · rw [xcf]; exact cb.2.2.2.2.2.2.2.1
      · rw [xcf]; exact cb.2.2.2.2.2.2.2.2.1
      · rw [m2, pk_us]; exact hh
      · rw [m2, pk_us, hu]
      · rw [m3, m5, m6, pk_us, pk_us, pk_us]
        exact ⟨0, 0, by decide, rfl, rfl, by decide, Or.inl rfl⟩
    · rw [va_up_ne _ _ e, pk_un e]
      rcases hW j hj with r | ⟨b, r1, r2⟩
      · exact Or.inl r
      · have hba := hne b r2.1
        refine Or.inr ⟨b, r1, RW1_c r2 hmm (va_up_ne _ _ hba) (fun f _ => xb b f hba) (fun k hk => ?_) hu⟩
        rcases hk with rfl | rfl | rfl | rfl | rfl | rfl
        · rw [m3, pk_un e]
        · rw [m4, pk_un e]
        · rw [m5, pk_un e]
        · rw [m6, pk_un e]
        · rw [m7, pk_un e]
        · rw [m2, pk_un e]
  · intro j hj
    rw [xr1, mk 8 (by decide)]
    rcases hD j hj with r | ⟨b, r1, r2⟩
    · exact Or.inl r
    · have hba := hne b r2.1
      exact Or.inr ⟨b, r1, RD1_c r2 hmm (va_up_ne _ _ hba) (Nat.le_refl _) (fun f _ => xb b f hba) (by rw [mk 8 (by decide)]) (by rw [mk 9 (by decide)]) (fun i hi r => ⟨i, by rw [mr]; exact hi, by rw [xr2]; exact r⟩)⟩
  · intro i hi
    rw [xr2, mr]
    refine ⟨fun r => ?_, (hK i hi).2⟩
    obtain ⟨b, r1, r2⟩ := (hK i hi).1 r
    have hba := hne b r2.1
    exact ⟨b, r1, RK1_c r2 hmm (va_up_ne _ _ hba) (Nat.le_refl _) (fun f _ => xb b f hba) (fun w _ => by rw [mk 10 (by decide)])⟩
  · intro i j
    rw [xr2, mr]
    exact hJ i j
  · refine ⟨fun b hb => ?_, fun b c hb hc h1 h2 => ?_⟩
    · by_cases e : b = q0
      · rw [e, va_up_self]; exact Nat.zero_le _
      · rw [va_up_ne _ _ e]
        rw [xL] at hb
        rcases List.mem_append.mp hb with r | r
        · exact hS.1 b r
        · exact absurd (List.mem_singleton.mp r) e
    · have eb : b ≠ q0 := fun e => by rw [e, va_up_self] at h1; omega
      rw [va_up_ne _ _ eb] at h1 h2
      have ec : c ≠ q0 := fun e => by rw [e, va_up_self] at h2; omega
      rw [va_up_ne _ _ ec] at h2
      rw [xL] at hb hc
      refine hS.2 b c ?_ ?_ h1 h2
      · rcases List.mem_append.mp hb with r | r
        · exact r
        · exact absurd (List.mem_singleton.mp r) eb
      · rcases List.mem_append.mp hc with r | r
        · exact r
        · exact absurd (List.mem_singleton.mp r) ec
