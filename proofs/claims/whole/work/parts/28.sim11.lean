theorem x_kset_k (x : XS) (k : Nat) (up : Bool) : (x_kset x k up).2 = x.2 ∧ (∀ j, (x_kset x k up).1 0 j = if j = k then bI up else x.1 0 j) ∧ (∀ j, j ≠ 0 → j ≠ 2 → (x_kset x k up).1 j = x.1 j) ∧ (∀ w, (x_kset x k up).1 2 w = if w = 12 then x.1 2 12 + (if up = true then nI 1 else -1) else x.1 2 w) := by
  refine ⟨rfl, fun j => ?_, fun j h0 h2 => ?_, fun w => ?_⟩
  · rw [x_kset, xadd, xset_k (by decide), xset_a]
    by_cases e : j = k
    · rw [e, pk_us, if_pos rfl]
    · rw [pk_un e, if_neg e]
  · rw [x_kset, xadd, xset_k h2, xset_k h0]
  · rw [x_kset, xadd, xset_a, xset_k (by decide)]
    by_cases e : w = 12
    · rw [e, pk_us, if_pos rfl]
    · rw [pk_un e, if_neg e]
theorem keeper_sim {x : XS} {m : MS} {sr : Nat → Nat} {T k : Nat} {up : Bool} (h : RR x m sr T) (hk : k < 4) : (x_keeper x k up).1 = (m_keeper m k up).1 ∧ RR (x_keeper x k up).2 (m_keeper m k up).2 sr T := by
  have hflip : x.1 0 k = bI up ↔ ¬ m.1 0 k = bI up := by
    rcases h.1.1 k hk with ⟨q1, q2⟩ | ⟨q1, q2⟩
    · rw [q1, q2]; cases up <;> decide
    · rw [q1, q2]; cases up <;> decide
  unfold x_keeper m_keeper
  by_cases c0 : x.1 0 k = bI up
  · rw [if_pos c0, if_neg (hflip.mp c0)]
    exact ⟨rfl, h⟩
  have cm : m.1 0 k = bI up := Decidable.byContradiction (fun q => c0 (hflip.mpr q))
  rw [if_neg c0, if_pos cm]
  refine ⟨rfl, ?_⟩
  dsimp only
  have hxk : x.1 0 k = bI (!up) := by
    rcases h.1.1 k hk with ⟨q1, q2⟩ | ⟨q1, q2⟩
    · rw [q2] at cm; rw [q1]; cases up
      · exact absurd cm (by decide)
      · rfl
    · rw [q2] at cm; rw [q1]; cases up
      · rfl
      · exact absurd cm (by decide)
  obtain ⟨K2, K0, Kj, Kc⟩ := x_kset_k x k up
  -- the reference
  obtain ⟨m1j, m12, m1f, m1w, m1l, m1m⟩ := kpL_spec k up 100 0 (mset m 0 k (bI (!up)))
  have e0 : ∀ j, (mset m 0 k (bI (!up))).1 0 j = if j = k then bI (!up) else m.1 0 j := fun j => by
    rw [mset_a]
    by_cases e : j = k
    · rw [e, pk_us, if_pos rfl]
    · rw [pk_un e, if_neg e]
  have ej : ∀ j, j ≠ 0 → (mset m 0 k (bI (!up))).1 j = m.1 j := fun j hj => mset_k hj
  have e2 : (mset m 0 k (bI (!up))).2 = m.2 := rfl
  generalize mset m 0 k (bI (!up)) = m1 at m1j m12 m1f m1w m1l m1m e0 ej e2
  generalize m_kpL k up 100 0 m1 = v at m1j m12 m1f m1w m1l m1m
  -- who is up now
  have upk : m_up m1 k = up := by
    unfold m_up
    rw [e0 k, if_pos rfl]
    cases up <;> rfl
  have upo : ∀ j, j ≠ k → m_up m1 j = m_up m j := fun j hj => by unfold m_up; rw [e0 j, if_neg hj]
  have upmk : m_up m k = !up := by
    unfold m_up
    rw [cm]
    cases up <;> rfl
  have xup : ∀ j, j < 4 → x_up (x_kset x k up) j = m_up m1 j := fun j hj => by
    unfold x_up
    rw [K0 j]
    by_cases e : j = k
    · rw [if_pos e, e, upk]; cases up <;> rfl
    · rw [if_neg e, upo j e]
      unfold m_up
      rcases h.1.1 j hj with ⟨q1, q2⟩ | ⟨q1, q2⟩
      · rw [q1, q2]; rfl
      · rw [q1, q2]; rfl
  have m12' : m1.1 2 = m.1 2 := ej 2 (by decide)
  rw [m12'] at m1f m1l m1m
  -- the class: those lost
  obtain ⟨⟨a1, a2, ⟨b0, b1, b2, b3, b4, b5, b6⟩, a4, a5, a6⟩, hW, hD, hK, hJ, hS⟩ := h
  obtain ⟨x2, hx2⟩ : ∃ x2, x2 = (if up = true then x_kset x k up else x_loseL k 100 0 (x_kset x k up)) := ⟨_, rfl⟩
  rw [← hx2]
  have hlx : ∀ i, i < 100 → losX (x_kset x k up) k i = decide (m.1 2 i = nI k) := fun i hi => by
    unfold losX
    rw [K2]
    rcases hW i hi with ⟨q1, q2⟩ | ⟨a, q1, q2⟩
    · rw [q1, q2]
      dsimp only
      exact (decide_eq_false (fun q => nI_n9 (by omega) q.symm)).symm
    · rw [q1]
      dsimp only
      have e : cf (x_kset x k up) a 3 = m.1 2 i := by
        have : cf (x_kset x k up) a 3 = cf x a 3 := by unfold cf; rw [K2]
        rw [this]
        exact q2.2.2.2.2.2.2.1
      rw [e]
  obtain ⟨L1, L2, L3, L4, L5, L6, L7, L8⟩ : (∀ j, j ≠ 2 → x2.1 j = (x_kset x k up).1 j) ∧ x2.2.2 = x.2.2 ∧ x2.2.1 1 = x.2.1 1 ∧ x2.2.1 2 = x.2.1 2 ∧ (∀ i, i < 100 → x2.2.1 0 i = if losP (m.1 2) k up i = true then none else x.2.1 0 i) ∧ (∀ w, w ≠ 1 → w ≠ 3 → x2.1 2 w = (x_kset x k up).1 2 w) ∧ x2.1 2 1 + nI (cntR (losP (m.1 2) k up) 0 100) = x.1 2 1 ∧ x2.1 2 3 = x.1 2 3 + nI (cntR (losP (m.1 2) k up) 0 100) := by
    have k21 : (x_kset x k up).1 2 1 = x.1 2 1 := by rw [Kc, if_neg (by decide)]
    have k23 : (x_kset x k up).1 2 3 = x.1 2 3 := by rw [Kc, if_neg (by decide)]
    cases hup : up with
    | true =>
      rw [hup, if_pos rfl] at hx2
      have hno : ∀ i, losP (m.1 2) k true i = false := fun i => decide_eq_false (fun q => by cases q.2)
      rw [cntR_no 100 0 hno]
      rw [hup] at k21 k23 K2
      rw [hx2]
      refine ⟨fun _ _ => rfl, by rw [K2], by rw [K2], by rw [K2], fun i _ => ?_, fun _ _ _ => rfl, ?_, ?_⟩
      · rw [hno i, if_neg (by decide), K2]
      · rw [k21]; exact add_bn0 _
      · rw [k23]; exact (add_bn0 _).symm
    | false =>
      rw [hup, if_neg (by decide)] at hx2
      rw [hup] at k21 k23 K2 hlx
      obtain ⟨l1, l2, l3, l4, l5, l6, l7, l8⟩ := loseL_spec k 100 0 (x_kset x k false)
      rw [← hx2] at l1 l2 l3 l4 l5 l6 l7 l8
      have hpl : ∀ i, i < 100 → losX (x_kset x k false) k i = losP (m.1 2) k false i := fun i hi => by
        rw [hlx i hi]
        unfold losP
        simp
      rw [cntR_congr (P := losX (x_kset x k false) k) (Q := losP (m.1 2) k false) 100 0 (fun i _ h2 => hpl i (by omega))] at l7 l8
      refine ⟨l1, by rw [l2, K2], by rw [l3, K2], by rw [l4, K2], fun i hi => ?_, l6, by rw [l7, k21], by rw [l8, k23]⟩
      rw [l5 i, hpl i hi, K2]
      by_cases c : losP (m.1 2) k false i = true
      · rw [if_pos ⟨by omega, c⟩, if_pos c]
      · rw [if_neg (fun q => c q.2), if_neg c]
  -- the class: those that move
  have hcx2 : ∀ b f, cf x2 b f = cf x b f := fun b f => by unfold cf; rw [L2]
  have hxw : ∀ i a, i < 100 → x2.2.1 0 i = some a → x.2.1 0 i = some a ∧ losP (m.1 2) k up i = false := fun i a hi q => by
    rw [L5 i hi] at q
    by_cases c : losP (m.1 2) k up i = true
    · rw [if_pos c] at q; cases q
    · rw [if_neg c] at q; exact ⟨q, by simpa using c⟩
  have hinj : ∀ i j a, i < 100 → j < 100 → x2.2.1 0 i = some a → x2.2.1 0 j = some a → i = j := fun i j a hi hj q1 q2 => by
    have r1 := (RW_at hW hi (hxw i a hi q1).1).2.2.1
    have r2 := (RW_at hW hj (hxw j a hj q2).1).2.2.1
    rw [r1] at r2
    exact nI_inj (by omega) (by omega) r2
  obtain ⟨M1, M2, M3, M4, M5, M6, M7, M8, M9⟩ := moveL_spec 100 0 x2 (by decide) hinj
  have xu2 : ∀ i, hm (x_up x2) i = hm (m_up m1) i := fun i => by
    refine hm_congr (fun j hj => ?_) i
    have : x_up x2 j = x_up (x_kset x k up) j := by unfold x_up; rw [L1 0 (by decide)]
    rw [this, xup j hj]
  generalize x_moveL 100 0 x2 = u at M1 M2 M3 M4 M5 M6 M7 M8 M9
  have huv : m_up v = m_up m1 := m_up_c (m1j 0 (by decide) (by decide))
  have vj : ∀ j, j ≠ 0 → j ≠ 2 → j ≠ 13 → v.1 j = m.1 j := fun j h0 h2 h13 => by rw [m1j j h2 h13, ej j h0]
  have v2 : v.2 = m.2 := by rw [m12, e2]
  have uj : ∀ j, j ≠ 0 → j ≠ 2 → u.1 j = x.1 j := fun j h0 h2 => by rw [M1 j h2, L1 j h2, Kj j h0 h2]
  have uL : u.2.2.2.1 = x.2.2.2.1 := by rw [M4, L2]
  have hmm : ∀ b, b ∈ x.2.2.2.1 → b ∈ u.2.2.2.1 := fun b hb => by rw [uL]; exact hb
  -- each number, in one word
  have hnum : ∀ i, i < 100 → (u.2.1 0 i = none ∧ v.1 2 i = -9 ∧ movX x2 i = false ∧ movP (m_up m1) (m.1 2) k up i = false ∧ (losP (m.1 2) k up i = true ↔ ¬ m.1 2 i = -9)) ∨ ∃ a, u.2.1 0 i = some a ∧ x.2.1 0 i = some a ∧ cf u a 3 = v.1 2 i ∧ ¬ v.1 2 i = -9 ∧ v.1 2 i = hm (m_up m1) i ∧ losP (m.1 2) k up i = false ∧ ¬ m.1 2 i = -9 ∧ movX x2 i = movP (m_up m1) (m.1 2) k up i := by
    intro i hi
    have hv := m1f i
    rw [if_pos (by omega)] at hv
    rcases hW i hi with ⟨q1, q2⟩ | ⟨a, q1, q2⟩
    · have nl : losP (m.1 2) k up i = false := decide_eq_false (fun q => by rw [q2] at q; exact nI_n9 (by omega) q.1.symm)
      have k1 : kv1 k up (m.1 2 i) = -9 := by
        unfold kv1
        rw [q2, if_neg (fun q => nI_n9 (by omega) q.1.symm)]
      have un : x2.2.1 0 i = none := by rw [L5 i hi, nl, if_neg (by decide)]; exact q1
      refine Or.inl ⟨by rw [M2]; exact un, ?_, ?_, ?_, ?_⟩
      · rw [hv, k1]
        unfold kv2
        rw [if_neg (fun q => q.1 rfl)]
      · unfold movX; rw [un]
      · unfold movP; rw [k1]; exact decide_eq_false (fun q => q.1 rfl)
      · rw [nl, q2]
        exact ⟨(fun q => by cases q), fun q => absurd rfl q⟩
    · obtain ⟨wL, wS, w0, wsh, w4, w7, w3, wp, w5, w6, w10, w11, wn, wh, wPF⟩ := q2
      by_cases c : losP (m.1 2) k up i = true
      · have c' : m.1 2 i = nI k ∧ up = false := of_decide_eq_true c
        have k1 : kv1 k up (m.1 2 i) = -9 := by unfold kv1; rw [if_pos c']
        have un : x2.2.1 0 i = none := by rw [L5 i hi, if_pos c]
        refine Or.inl ⟨by rw [M2]; exact un, ?_, ?_, ?_, ?_⟩
        · rw [hv, k1]
          unfold kv2
          rw [if_neg (fun q => q.1 rfl)]
        · unfold movX; rw [un]
        · unfold movP; rw [k1]; exact decide_eq_false (fun q => q.1 rfl)
        · exact ⟨fun _ => wn, fun _ => c⟩
      · have c' : ¬ (m.1 2 i = nI k ∧ up = false) := fun q => c (decide_eq_true q)
        have k1 : kv1 k up (m.1 2 i) = m.1 2 i := by unfold kv1; rw [if_neg c']
        have un : x2.2.1 0 i = some a := by rw [L5 i hi, if_neg c]; exact q1
        have hh : ¬ hm (m_up m1) i = -9 := by
          intro q
          have hall : ∀ j, j < 4 → m_up m1 j = false := by
            rcases hm_spec (m_up m1) i with ⟨-, r⟩ | ⟨j, r1, -, r3⟩
            · exact r
            · rw [r3] at q; exact absurd q (nI_n9 (by omega))
          cases hup : up with
          | true => have := hall k hk; rw [upk, hup] at this; cases this
          | false =>
            rcases hm_spec (m_up m) i with ⟨r, -⟩ | ⟨j, r1, r2, r3⟩
            · rw [← wh] at r; exact wn r
            · have hjk : j ≠ k := fun e => c' ⟨by rw [wh, r3, e], hup⟩
              have := hall j r1
              rw [upo j hjk, r2] at this
              cases this
        have hvv : v.1 2 i = hm (m_up m1) i := by
          rw [hv, k1]
          unfold kv2
          by_cases e : m.1 2 i = hm (m_up m1) i
          · rw [if_neg (fun q => q.2 e)]; exact e
          · rw [if_pos ⟨wn, e⟩]
        refine Or.inr ⟨a, by rw [M2]; exact un, q1, ?_, by rw [hvv]; exact hh, hvv, by simpa using c, wn, ?_⟩
        · rw [M6 i a (by omega) hi un, xu2, hvv]
        · unfold movX movP
          rw [un, k1]
          dsimp only
          rw [xu2, hcx2, w3]
          by_cases e : m.1 2 i = hm (m_up m1) i
          · rw [decide_eq_false (show ¬ ¬ hm (m_up m1) i = m.1 2 i from fun q => q e.symm), decide_eq_false (show ¬ (¬ m.1 2 i = -9 ∧ ¬ m.1 2 i = hm (m_up m1) i) from fun q => q.2 e)]
          · rw [decide_eq_true (show ¬ hm (m_up m1) i = m.1 2 i from fun q => e q.symm), decide_eq_true (show ¬ m.1 2 i = -9 ∧ ¬ m.1 2 i = hm (m_up m1) i from ⟨wn, e⟩)]
  have hcw : cntW (m.1 2) = cntW (v.1 2) + cntR (losP (m.1 2) k up) 0 100 := by
    unfold cntW
    refine cntR_sum 100 0 (fun i _ hi => ?_)
    unfold wP
    rcases hnum i (by omega) with ⟨-, r2, -, -, r5⟩ | ⟨a, -, -, -, r4, -, r6, r7, -⟩
    · rw [decide_eq_false (show ¬ ¬ v.1 2 i = -9 from fun q => q r2)]
      by_cases c : losP (m.1 2) k up i = true
      · rw [c, decide_eq_true (show ¬ m.1 2 i = -9 from r5.mp c)]; rfl
      · have cf' : losP (m.1 2) k up i = false := by simpa using c
        rw [cf', decide_eq_false (show ¬ ¬ m.1 2 i = -9 from fun q => c (r5.mpr q))]; rfl
    · rw [decide_eq_true r7, decide_eq_true r4, r6]; rfl
  have hmv : cntR (movX x2) 0 100 = cntR (movP (m_up m1) (m.1 2) k up) 0 100 := cntR_congr 100 0 (fun i _ hi => by
    rcases hnum i (by omega) with ⟨-, -, r3, r4, -⟩ | ⟨a, -, -, -, -, -, -, -, r8⟩
    · rw [r3, r4]
    · exact r8)
  have hsr : ∀ b, 1 ≤ sr b → ∀ f, cf u b f = cf x b f := fun b hb f => by
    by_cases e : f = 3
    · subst e
      rw [M7 b (fun i _ hi q => ?_), hcx2]
      have := (RW_at hW hi (hxw i b hi q).1).2.1
      omega
    · rw [M5 b f e, hcx2]
  refine ⟨⟨?_, ⟨?_, ?_, ?_⟩, ⟨?_, ?_, ?_, ?_, ?_, ?_, ?_⟩, ?_, ?_, ?_⟩, ?_, ?_, ?_, ?_, ?_⟩
  · intro j hj
    rw [M1 0 (by decide), L1 0 (by decide), K0 j, m1j 0 (by decide) (by decide), e0 j]
    by_cases e : j = k
    · rw [if_pos e, if_pos e]
      cases up
      · exact Or.inl ⟨rfl, rfl⟩
      · exact Or.inr ⟨rfl, rfl⟩
    · rw [if_neg e, if_neg e]; exact a1 j hj
  · rw [uj 1 (by decide) (by decide), vj 1 (by decide) (by decide) (by decide)]; exact a2.1
  · intro s w q1 q2
    rw [uj (4 + s) (by omega) (by omega), vj 11 (by decide) (by decide) (by decide)]; exact a2.2.1 s w q1 q2
  · rw [M3, L2, v2]; exact a2.2.2
  · rw [M8 0 (by decide), L6 0 (by decide) (by decide), Kc, if_neg (by decide), v2]; exact b0
  · have e1 : x2.1 2 1 = nI (cntW (v.1 2)) := by
      have e2 : x2.1 2 1 + nI (cntR (losP (m.1 2) k up) 0 100) = nI (cntW (v.1 2)) + nI (cntR (losP (m.1 2) k up) 0 100) := by rw [L7, b1, hcw, nI_add]
      have e3 := congrArg (fun t => t - nI (cntR (losP (m.1 2) k up) 0 100)) e2
      simpa only [Int32.add_sub_cancel] using e3
    rw [M8 1 (by decide)]; exact e1
  · omega
  · rw [M8 2 (by decide), L6 2 (by decide) (by decide), Kc, if_neg (by decide), v2]; exact b3
  · rw [v2]; exact b4
  · intro w q1 q2
    by_cases w4 : w = 4
    · rw [w4, M9, L6 4 (by decide) (by decide), Kc, if_neg (by decide), m1m, ej 13 (by decide), b5 4 (by omega) (by omega), hmv]
    · by_cases w3 : w = 3
      · rw [w3, M8 3 (by decide), L8, m1l, ej 13 (by decide), b5 3 (by omega) (by omega)]
      · rw [M8 w w4, L6 w (by omega) w3, Kc, if_neg (by omega), m1w w w3 w4, ej 13 (by decide)]; exact b5 w q1 q2
  · rw [M8 12 (by decide), L6 12 (by decide) (by decide), Kc, if_pos rfl, b6, m_upL_c (m1j 0 (by decide) (by decide)), m_upL_eq, m_upL_eq, Nat.zero_add, Nat.zero_add]
    cases hup : up with
    | true =>
      rw [if_pos rfl, nI_add]
      rw [hup] at upk upmk
      have := cntR_del (P := m_up m1) (Q := m_up m) (i := k) 4 0 (by omega) (by omega) upk upmk upo
      rw [this]
    | false =>
      rw [if_neg (by decide)]
      rw [hup] at upk upmk
      have := cntR_del (P := m_up m) (Q := m_up m1) (i := k) 4 0 (by omega) (by omega) upmk upk (fun j hj => (upo j hj).symm)
      rw [← this, pk_m1]
  · rw [uj 3 (by decide) (by decide), vj 12 (by decide) (by decide) (by decide)]; exact a4
  · rw [m1w 10 (by decide) (by decide), ej 13 (by decide)]; exact a5
  · rw [vj 12 (by decide) (by decide) (by decide)]; exact a6
  · intro i hi
    rcases hnum i hi with ⟨r1, r2, -⟩ | ⟨a, r1, r2, r3, r4, r5, -⟩
    · exact Or.inl ⟨r1, r2⟩
    · refine Or.inr ⟨a, r1, ?_⟩
      obtain ⟨wL, wS, w0, wsh, w4, w7, w3, wp, w5, w6, w10, w11, wn, wh, wPF⟩ := RW_at hW hi r2
      have ce : ∀ f, f ≠ 3 → cf u a f = cf x a f := fun f hf => by rw [M5 a f hf, hcx2]
      refine ⟨hmm a wL, wS, ?_, ?_, ?_, ?_, r3, ?_, ?_, ?_, ?_, ?_, r4, ?_, ?_⟩
      · rw [ce 0 (by decide)]; exact w0
      · rw [ce 1 (by decide)]; exact wsh
      · rw [ce 1 (by decide), vj 4 (by decide) (by decide) (by decide)]; exact w4
      · rw [ce 2 (by decide), vj 7 (by decide) (by decide) (by decide)]; exact w7
      · rw [ce 4 (by decide), vj 3 (by decide) (by decide) (by decide)]; exact wp
      · rw [ce 5 (by decide), vj 5 (by decide) (by decide) (by decide)]; exact w5
      · rw [ce 6 (by decide), vj 6 (by decide) (by decide) (by decide)]; exact w6
      · rw [ce 10 (by decide)]; exact w10
      · rw [ce 11 (by decide)]; exact w11
      · rw [huv]; exact r5
      · rw [vj 3 (by decide) (by decide) (by decide), vj 5 (by decide) (by decide) (by decide), vj 6 (by decide) (by decide) (by decide)]; exact wPF
  · intro i hi
    rw [M2, L3, vj 8 (by decide) (by decide) (by decide)]
    rcases hD i hi with r | ⟨b, r1, r2⟩
    · exact Or.inl r
    · exact Or.inr ⟨b, r1, RD1_c r2 hmm rfl (Nat.le_refl _) (fun f _ => hsr b r2.2.1 f) (by rw [vj 8 (by decide) (by decide) (by decide)]) (by rw [vj 9 (by decide) (by decide) (by decide)]) (fun j hj r => ⟨j, by rw [v2]; exact hj, by rw [M2, L4]; exact r⟩)⟩
  · intro i hi
    rw [M2, L4, v2]
    refine ⟨fun r => ?_, (hK i hi).2⟩
    obtain ⟨b, r1, r2⟩ := (hK i hi).1 r
    exact ⟨b, r1, RK1_c r2 hmm rfl (Nat.le_refl _) (fun f _ => hsr b r2.2.1 f) (fun w _ => by rw [vj 10 (by decide) (by decide) (by decide)])⟩
  · intro i j
    rw [M2, L4, v2]
    exact hJ i j
  · exact ⟨fun b => by rw [uL]; exact hS.1 b, fun b c => by rw [uL]; exact hS.2 b c⟩
