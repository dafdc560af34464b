/-! a keeper falls or comes, on both sides -/
theorem nI_nm1 {r : Nat} (h : r < 2 ^ 31) : ¬ nI r ≤ -1 := by
  rw [Int32.le_iff_toInt_le, nI_toInt h]
  have e : (-1 : Int32).toInt = -1 := by decide
  omega
theorem hm_spec (U : Nat → Bool) (n : Nat) : (hm U n = -9 ∧ ∀ k, k < 4 → U k = false) ∨ ∃ k, k < 4 ∧ U k = true ∧ hm U n = nI k := by
  have key : ∀ (f k : Nat) (b t : Int32), k + f = 4 → ((b = -9 ∧ t = -1 ∧ ∀ j, j < k → U j = false) ∨ ∃ j, j < k ∧ U j = true ∧ b = nI j) → (hmL U n f k b t = -9 ∧ ∀ k, k < 4 → U k = false) ∨ ∃ j, j < 4 ∧ U j = true ∧ hmL U n f k b t = nI j := by
    intro f
    induction f with
    | zero =>
      intro k b t hk h
      rcases h with ⟨h1, -, h3⟩ | ⟨j, h1, h2, h3⟩
      · exact Or.inl ⟨h1, fun j hj => h3 j (by omega)⟩
      · exact Or.inr ⟨j, by omega, h2, h3⟩
    | succ f ih =>
      intro k b t hk h
      unfold hmL
      by_cases c : U k = true ∧ ¬ nI ((7 * n + 5 * k) % 11) ≤ t
      · rw [if_pos c]
        exact ih (k + 1) _ _ (by omega) (Or.inr ⟨k, by omega, c.1, rfl⟩)
      · rw [if_neg c]
        refine ih (k + 1) _ _ (by omega) ?_
        rcases h with ⟨h1, h2, h3⟩ | ⟨j, h1, h2, h3⟩
        · refine Or.inl ⟨h1, h2, fun j hj => ?_⟩
          by_cases e : j = k
          · subst e
            cases hu : U j with
            | false => rfl
            | true => exact absurd ⟨hu, by rw [h2]; exact nI_nm1 (by omega)⟩ c
          · exact h3 j (by omega)
        · exact Or.inr ⟨j, by omega, h2, h3⟩
  exact key 4 0 _ _ rfl (Or.inl ⟨rfl, rfl, fun j hj => absurd hj (Nat.not_lt_zero j)⟩)
theorem hm_congr {U V : Nat → Bool} (h : ∀ k, k < 4 → U k = V k) (n : Nat) : hm U n = hm V n := by
  have key : ∀ (f k : Nat) (b t : Int32), k + f = 4 → hmL U n f k b t = hmL V n f k b t := by
    intro f
    induction f with
    | zero => intro k b t _; rfl
    | succ f ih =>
      intro k b t hf
      unfold hmL
      rw [h k (by omega), ih (k + 1) _ _ (by omega), ih (k + 1) _ _ (by omega)]
  exact key 4 0 _ _ rfl
def bn (b : Bool) : Nat := if b = true then 1 else 0
theorem cntR_s (P : Nat → Bool) (n f : Nat) : cntR P n (f + 1) = bn (P n) + cntR P (n + 1) f := rfl
theorem cntR_sum {P Q R : Nat → Bool} : ∀ (f n : Nat), (∀ i, n ≤ i → i < n + f → bn (P i) = bn (Q i) + bn (R i)) → cntR P n f = cntR Q n f + cntR R n f := by
  intro f
  induction f with
  | zero => intro n _; rfl
  | succ f ih =>
    intro n h
    rw [cntR_s, cntR_s, cntR_s, h n (by omega) (by omega), ih (n + 1) (fun i h1 h2 => h i (by omega) (by omega))]
    omega
theorem cntR_no {P : Nat → Bool} : ∀ (f n : Nat), (∀ i, P i = false) → cntR P n f = 0 := by
  intro f
  induction f with
  | zero => intro n _; rfl
  | succ f ih => intro n h; rw [cntR_s, h n, ih (n + 1) h]; rfl
theorem add_bn0 (v : Int32) : v + nI 0 = v := Int32.add_zero v
def kv1 (k : Nat) (up : Bool) (v : Int32) : Int32 := if v = nI k ∧ up = false then -9 else v
def kv2 (U : Nat → Bool) (n : Nat) (v : Int32) : Int32 := if ¬ v = -9 ∧ ¬ v = hm U n then hm U n else v
def losP (g : Nat → Int32) (k : Nat) (up : Bool) : Nat → Bool := fun i => decide (g i = nI k ∧ up = false)
def movP (U : Nat → Bool) (g : Nat → Int32) (k : Nat) (up : Bool) : Nat → Bool := fun i => decide (¬ kv1 k up (g i) = -9 ∧ ¬ kv1 k up (g i) = hm U i)
theorem kp1_spec (st : MS) (k : Nat) (up : Bool) (n : Nat) : (∀ j, j ≠ 2 → j ≠ 13 → (m_kp1 st k up n).1 j = st.1 j) ∧ (m_kp1 st k up n).2 = st.2 ∧ (∀ i, (m_kp1 st k up n).1 2 i = if i = n then kv1 k up (st.1 2 n) else st.1 2 i) ∧ (∀ w, w ≠ 3 → (m_kp1 st k up n).1 13 w = st.1 13 w) ∧ (m_kp1 st k up n).1 13 3 = st.1 13 3 + nI (bn (losP (st.1 2) k up n)) := by
  unfold m_kp1 kv1 losP
  by_cases c : st.1 2 n = nI k ∧ up = false
  · rw [if_pos c, if_pos c]
    refine ⟨fun j h1 h2 => by rw [m_inc, mset_k h2, mset_k h1], rfl, fun i => ?_, fun w hw => ?_, ?_⟩
    · rw [m_inc, mset_k (by decide), mset_a]
      by_cases e : i = n
      · rw [e, pk_us, if_pos rfl]
      · rw [pk_un e, if_neg e]
    · rw [m_inc, mset_a, pk_un hw, mset_k (by decide)]
    · rw [m_inc, mset_s, mset_k (by decide), decide_eq_true c]
      rfl
  · rw [if_neg c, if_neg c]
    refine ⟨fun _ _ _ => rfl, rfl, fun i => ?_, fun _ _ => rfl, ?_⟩
    · by_cases e : i = n
      · rw [e, if_pos rfl]
      · rw [if_neg e]
    · rw [decide_eq_false c]
      exact (add_bn0 _).symm
theorem kp2_spec (st : MS) (n : Nat) : (∀ j, j ≠ 2 → j ≠ 13 → (m_kp2 st n).1 j = st.1 j) ∧ (m_kp2 st n).2 = st.2 ∧ (∀ i, (m_kp2 st n).1 2 i = if i = n then kv2 (m_up st) n (st.1 2 n) else st.1 2 i) ∧ (∀ w, w ≠ 4 → (m_kp2 st n).1 13 w = st.1 13 w) ∧ (m_kp2 st n).1 13 4 = st.1 13 4 + nI (bn (decide (¬ st.1 2 n = -9 ∧ ¬ st.1 2 n = hm (m_up st) n))) := by
  unfold m_kp2 kv2
  by_cases c : ¬ st.1 2 n = -9 ∧ ¬ st.1 2 n = hm (m_up st) n
  · rw [if_pos c, if_pos c]
    refine ⟨fun j h1 h2 => by rw [m_inc, mset_k h2, mset_k h1], rfl, fun i => ?_, fun w hw => ?_, ?_⟩
    · rw [m_inc, mset_k (by decide), mset_a]
      by_cases e : i = n
      · rw [e, pk_us, if_pos rfl]
      · rw [pk_un e, if_neg e]
    · rw [m_inc, mset_a, pk_un hw, mset_k (by decide)]
    · rw [m_inc, mset_s, mset_k (by decide), decide_eq_true c]
      rfl
  · rw [if_neg c, if_neg c]
    refine ⟨fun _ _ _ => rfl, rfl, fun i => ?_, fun _ _ => rfl, ?_⟩
    · by_cases e : i = n
      · rw [e, if_pos rfl]
      · rw [if_neg e]
    · rw [decide_eq_false c]
      exact (add_bn0 _).symm
theorem kpL_spec (k : Nat) (up : Bool) : ∀ (f n : Nat) (st : MS), (∀ j, j ≠ 2 → j ≠ 13 → (m_kpL k up f n st).1 j = st.1 j) ∧ (m_kpL k up f n st).2 = st.2 ∧ (∀ i, (m_kpL k up f n st).1 2 i = if n ≤ i ∧ i < n + f then kv2 (m_up st) i (kv1 k up (st.1 2 i)) else st.1 2 i) ∧ (∀ w, w ≠ 3 → w ≠ 4 → (m_kpL k up f n st).1 13 w = st.1 13 w) ∧ (m_kpL k up f n st).1 13 3 = st.1 13 3 + nI (cntR (losP (st.1 2) k up) n f) ∧ (m_kpL k up f n st).1 13 4 = st.1 13 4 + nI (cntR (movP (m_up st) (st.1 2) k up) n f) := by
  intro f
  induction f with
  | zero =>
    intro n st
    exact ⟨fun _ _ _ => rfl, rfl, fun i => by rw [if_neg (by omega)]; rfl, fun _ _ _ => rfl, (add_bn0 _).symm, (add_bn0 _).symm⟩
  | succ f ih =>
    intro n st
    unfold m_kpL
    obtain ⟨p1, p2, p3, p4, p5⟩ := kp1_spec st k up n
    obtain ⟨q1, q2, q3, q4, q5⟩ := kp2_spec (m_kp1 st k up n) n
    obtain ⟨r1, r2, r3, r4, r5, r6⟩ := ih (n + 1) (m_kp2 (m_kp1 st k up n) n)
    have u1 : m_up (m_kp1 st k up n) = m_up st := m_up_c (p1 0 (by decide) (by decide))
    have u2 : m_up (m_kp2 (m_kp1 st k up n) n) = m_up st := (m_up_c (q1 0 (by decide) (by decide))).trans u1
    have s2 : ∀ i, i ≠ n → (m_kp2 (m_kp1 st k up n) n).1 2 i = st.1 2 i := fun i hi => by rw [q3, if_neg hi, p3, if_neg hi]
    have s2n : (m_kp2 (m_kp1 st k up n) n).1 2 n = kv2 (m_up st) n (kv1 k up (st.1 2 n)) := by rw [q3, if_pos rfl, p3, if_pos rfl, u1]
    have t1 : (m_kp1 st k up n).1 2 n = kv1 k up (st.1 2 n) := by rw [p3, if_pos rfl]
    generalize m_kp2 (m_kp1 st k up n) n = s at q1 q2 q3 q4 q5 r1 r2 r3 r4 r5 r6 u2 s2 s2n
    refine ⟨fun j h1 h2 => by rw [r1 j h1 h2, q1 j h1 h2, p1 j h1 h2], by rw [r2, q2, p2], fun i => ?_, fun w h3 h4 => by rw [r4 w h3 h4, q4 w h4, p4 w h3], ?_, ?_⟩
    · rw [r3 i, u2]
      by_cases e : i = n
      · subst e
        rw [if_neg (by omega), if_pos (by omega), s2n]
      · rw [s2 i e]
        by_cases c : n + 1 ≤ i ∧ i < n + 1 + f
        · rw [if_pos c, if_pos (by omega)]
        · rw [if_neg c, if_neg (by omega)]
    · rw [r5, q4 3 (by decide), p5, Int32.add_assoc, nI_add, cntR_s, cntR_congr (P := losP (s.1 2) k up) (Q := losP (st.1 2) k up) f (n + 1) (fun i h1 _ => by unfold losP; rw [s2 i (by omega)])]
    · rw [r6, q5, p4 4 (by decide), Int32.add_assoc, nI_add, cntR_s, u1, u2, t1, cntR_congr (P := movP (m_up st) (s.1 2) k up) (Q := movP (m_up st) (st.1 2) k up) f (n + 1) (fun i h1 _ => by unfold movP; rw [s2 i (by omega)])]
      rfl
def losX (st : XS) (k : Nat) : Nat → Bool := fun i => match st.2.1 0 i with
  | none => false
  | some a => decide (cf st a 3 = nI k)
theorem lose1_spec (st : XS) (k n : Nat) : (∀ j, j ≠ 2 → (x_lose1 st k n).1 j = st.1 j) ∧ (x_lose1 st k n).2.2 = st.2.2 ∧ (x_lose1 st k n).2.1 1 = st.2.1 1 ∧ (x_lose1 st k n).2.1 2 = st.2.1 2 ∧ (∀ i, (x_lose1 st k n).2.1 0 i = if i = n ∧ losX st k n = true then none else st.2.1 0 i) ∧ (∀ w, w ≠ 1 → w ≠ 3 → (x_lose1 st k n).1 2 w = st.1 2 w) ∧ (x_lose1 st k n).1 2 1 + nI (bn (losX st k n)) = st.1 2 1 ∧ (x_lose1 st k n).1 2 3 = st.1 2 3 + nI (bn (losX st k n)) := by
  have same : losX st k n = false → x_lose1 st k n = st → _ := fun h1 h2 => show (∀ j, j ≠ 2 → (x_lose1 st k n).1 j = st.1 j) ∧ (x_lose1 st k n).2.2 = st.2.2 ∧ (x_lose1 st k n).2.1 1 = st.2.1 1 ∧ (x_lose1 st k n).2.1 2 = st.2.1 2 ∧ (∀ i, (x_lose1 st k n).2.1 0 i = if i = n ∧ losX st k n = true then none else st.2.1 0 i) ∧ (∀ w, w ≠ 1 → w ≠ 3 → (x_lose1 st k n).1 2 w = st.1 2 w) ∧ (x_lose1 st k n).1 2 1 + nI (bn (losX st k n)) = st.1 2 1 ∧ (x_lose1 st k n).1 2 3 = st.1 2 3 + nI (bn (losX st k n)) by
    rw [h1, h2]
    exact ⟨fun _ _ => rfl, rfl, rfl, rfl, fun i => by rw [if_neg (fun q => by cases q.2)], fun _ _ _ => rfl, add_bn0 _, (add_bn0 _).symm⟩
  cases ho : st.2.1 0 n with
  | none => exact same (by unfold losX; rw [ho]) (by unfold x_lose1; rw [ho])
  | some a =>
    by_cases c : cf st a 3 = nI k
    · have e1 : losX st k n = true := by unfold losX; rw [ho]; exact decide_eq_true c
      have e2 : x_lose1 st k n = xinc (x_stop st n) 2 3 := by unfold x_lose1; rw [ho]; dsimp only; rw [if_pos c]
      rw [e1, e2]
      have b1 : bn true = 1 := rfl
      refine ⟨fun j hj => by rw [xinc, xset_k hj, x_stop, xsub, xset_k hj]; rfl, rfl, rfl, rfl, fun i => ?_, fun w h1 h3 => ?_, ?_, ?_⟩
      · show va_up (st.2.1 0) n none i = _
        by_cases e : i = n
        · rw [e, va_up_self, if_pos ⟨rfl, rfl⟩]
        · rw [va_up_ne _ _ e, if_neg (fun q => e q.1)]
      · rw [xinc, xset_a, pk_un h3, x_stop, xsub, xset_a, pk_un h1]; rfl
      · rw [xinc, xset_a, pk_un (by decide), x_stop, xsub, xset_s, b1]
        exact Int32.sub_add_cancel _ _
      · rw [xinc, xset_s, x_stop, xsub, xset_a, pk_un (by decide), b1]; rfl
    · exact same (by unfold losX; rw [ho]; exact decide_eq_false c) (by unfold x_lose1; rw [ho]; dsimp only; rw [if_neg c])
theorem loseL_spec (k : Nat) : ∀ (f n : Nat) (st : XS), (∀ j, j ≠ 2 → (x_loseL k f n st).1 j = st.1 j) ∧ (x_loseL k f n st).2.2 = st.2.2 ∧ (x_loseL k f n st).2.1 1 = st.2.1 1 ∧ (x_loseL k f n st).2.1 2 = st.2.1 2 ∧ (∀ i, (x_loseL k f n st).2.1 0 i = if (n ≤ i ∧ i < n + f) ∧ losX st k i = true then none else st.2.1 0 i) ∧ (∀ w, w ≠ 1 → w ≠ 3 → (x_loseL k f n st).1 2 w = st.1 2 w) ∧ (x_loseL k f n st).1 2 1 + nI (cntR (losX st k) n f) = st.1 2 1 ∧ (x_loseL k f n st).1 2 3 = st.1 2 3 + nI (cntR (losX st k) n f) := by
  intro f
  induction f with
  | zero =>
    intro n st
    exact ⟨fun _ _ => rfl, rfl, rfl, rfl, fun i => by rw [if_neg (by omega)]; rfl, fun _ _ _ => rfl, add_bn0 _, (add_bn0 _).symm⟩
  | succ f ih =>
    intro n st
    unfold x_loseL
    obtain ⟨p1, p2, p3, p4, p5, p6, p7, p8⟩ := lose1_spec st k n
    obtain ⟨r1, r2, r3, r4, r5, r6, r7, r8⟩ := ih (n + 1) (x_lose1 st k n)
    have hl : ∀ i, i ≠ n → losX (x_lose1 st k n) k i = losX st k i := fun i hi => by
      unfold losX
      rw [p5, if_neg (fun q => hi q.1)]
      unfold cf
      rw [p2]
    generalize x_lose1 st k n = s at *
    have hc := cntR_congr (P := losX s k) (Q := losX st k) f (n + 1) (fun i h1 _ => hl i (by omega))
    refine ⟨fun j hj => by rw [r1 j hj, p1 j hj], by rw [r2, p2], by rw [r3, p3], by rw [r4, p4], fun i => ?_, fun w h1 h3 => by rw [r6 w h1 h3, p6 w h1 h3], ?_, ?_⟩
    · rw [r5 i]
      by_cases e : i = n
      · subst e
        rw [if_neg (by omega), p5]
        by_cases c : losX st k i = true
        · rw [if_pos ⟨rfl, c⟩, if_pos ⟨by omega, c⟩]
        · rw [if_neg (fun q => c q.2), if_neg (fun q => c q.2)]
      · rw [hl i e, p5, if_neg (show ¬ (i = n ∧ losX st k n = true) from fun q => e q.1)]
        by_cases c : (n + 1 ≤ i ∧ i < n + 1 + f) ∧ losX st k i = true
        · rw [if_pos c, if_pos ⟨by omega, c.2⟩]
        · rw [if_neg c, if_neg (fun q => c ⟨by omega, q.2⟩)]
    · rw [cntR_s, ← hc, Nat.add_comm (bn (losX st k n)), ← nI_add, ← Int32.add_assoc, r7, p7]
    · rw [r8, p8, Int32.add_assoc, nI_add, cntR_s, hc]
def movX (st : XS) : Nat → Bool := fun i => match st.2.1 0 i with
  | none => false
  | some a => decide (¬ hm (x_up st) i = cf st a 3)
theorem move1_spec (st : XS) (n : Nat) : (∀ j, j ≠ 2 → (x_move1 st n).1 j = st.1 j) ∧ (x_move1 st n).2.1 = st.2.1 ∧ (x_move1 st n).2.2.1 = st.2.2.1 ∧ (x_move1 st n).2.2.2.1 = st.2.2.2.1 ∧ (∀ b f, f ≠ 3 → cf (x_move1 st n) b f = cf st b f) ∧ (∀ a, st.2.1 0 n = some a → cf (x_move1 st n) a 3 = hm (x_up st) n) ∧ (∀ b, ¬ st.2.1 0 n = some b → cf (x_move1 st n) b 3 = cf st b 3) ∧ (∀ w, w ≠ 4 → (x_move1 st n).1 2 w = st.1 2 w) ∧ (x_move1 st n).1 2 4 = st.1 2 4 + nI (bn (movX st n)) := by
  cases ho : st.2.1 0 n with
  | none =>
    have e1 : movX st n = false := by unfold movX; rw [ho]
    have e2 : x_move1 st n = st := by unfold x_move1; rw [ho]
    rw [e1, e2]
    exact ⟨fun _ _ => rfl, rfl, rfl, rfl, fun _ _ _ => rfl, (fun a h => by cases h), fun _ _ => rfl, fun _ _ => rfl, (add_bn0 _).symm⟩
  | some a =>
    by_cases c : hm (x_up st) n = cf st a 3
    · have e1 : movX st n = false := by unfold movX; rw [ho]; exact decide_eq_false (fun q => q c)
      have e2 : x_move1 st n = st := by unfold x_move1; rw [ho]; dsimp only; rw [if_pos c]
      rw [e1, e2]
      exact ⟨fun _ _ => rfl, rfl, rfl, rfl, fun _ _ _ => rfl, fun b h => by cases h; exact c.symm, fun _ _ => rfl, fun _ _ => rfl, (add_bn0 _).symm⟩
    · have e1 : movX st n = true := by unfold movX; rw [ho]; exact decide_eq_true c
      have e2 : x_move1 st n = xinc (xc st a 3 (hm (x_up st) n)) 2 4 := by unfold x_move1; rw [ho]; dsimp only; rw [if_neg c]
      rw [e1, e2]
      refine ⟨fun j hj => by rw [xinc, xset_k hj]; rfl, rfl, rfl, rfl, fun b f hf => cf_ne (st := st) hf, fun b h => by cases h; exact cf_eq (st := st), fun b h => cf_b (st := st) (fun q => h (by rw [q])), fun w hw => by rw [xinc, xset_a, pk_un hw]; rfl, by rw [xinc, xset_s]; rfl⟩
theorem moveL_spec : ∀ (f n : Nat) (st : XS), n + f = 100 → (∀ i j a, i < 100 → j < 100 → st.2.1 0 i = some a → st.2.1 0 j = some a → i = j) → (∀ j, j ≠ 2 → (x_moveL f n st).1 j = st.1 j) ∧ (x_moveL f n st).2.1 = st.2.1 ∧ (x_moveL f n st).2.2.1 = st.2.2.1 ∧ (x_moveL f n st).2.2.2.1 = st.2.2.2.1 ∧ (∀ b f', f' ≠ 3 → cf (x_moveL f n st) b f' = cf st b f') ∧ (∀ i a, n ≤ i → i < 100 → st.2.1 0 i = some a → cf (x_moveL f n st) a 3 = hm (x_up st) i) ∧ (∀ b, (∀ i, n ≤ i → i < 100 → ¬ st.2.1 0 i = some b) → cf (x_moveL f n st) b 3 = cf st b 3) ∧ (∀ w, w ≠ 4 → (x_moveL f n st).1 2 w = st.1 2 w) ∧ (x_moveL f n st).1 2 4 = st.1 2 4 + nI (cntR (movX st) n f) := by
  intro f
  induction f with
  | zero =>
    intro n st hn _
    exact ⟨fun _ _ => rfl, rfl, rfl, rfl, fun _ _ _ => rfl, fun i a h1 h2 => by omega, fun _ _ => rfl, fun _ _ => rfl, (add_bn0 _).symm⟩
  | succ f ih =>
    intro n st hn hinj
    unfold x_moveL
    obtain ⟨p1, p2, p3, p4, p5, p6, p7, p8, p9⟩ := move1_spec st n
    obtain ⟨r1, r2, r3, r4, r5, r6, r7, r8, r9⟩ := ih (n + 1) (x_move1 st n) (by omega) (by rw [p2]; exact hinj)
    have hu : x_up (x_move1 st n) = x_up st := by unfold x_up; rw [p1 0 (by decide)]
    have hl : ∀ i, n + 1 ≤ i → i < 100 → movX (x_move1 st n) i = movX st i := fun i h1 h2 => by
      unfold movX
      rw [p2, hu]
      cases ho : st.2.1 0 i with
      | none => rfl
      | some a =>
        dsimp only
        rw [p7 a (fun q => by have := hinj n i a (by omega) h2 q ho; omega)]
    rw [hu] at r6
    generalize x_move1 st n = s at *
    have hc := cntR_congr (P := movX s) (Q := movX st) f (n + 1) (fun i h1 h2 => hl i h1 (by omega))
    refine ⟨fun j hj => by rw [r1 j hj, p1 j hj], by rw [r2, p2], by rw [r3, p3], by rw [r4, p4], fun b f' hf => by rw [r5 b f' hf, p5 b f' hf], fun i a h1 h2 h3 => ?_, fun b hb => ?_, fun w hw => by rw [r8 w hw, p8 w hw], ?_⟩
    · by_cases e : i = n
      · subst e
        rw [r7 a (fun j h4 h5 q => by rw [p2] at q; have := hinj i j a h2 h5 h3 q; omega), p6 a h3]
      · exact r6 i a (by omega) h2 (by rw [p2]; exact h3)
    · rw [r7 b (fun i h1 h2 => by rw [p2]; exact hb i (by omega) h2), p7 b (hb n (by omega) (by omega))]
    · rw [r9, p9, Int32.add_assoc, nI_add, cntR_s, hc]
theorem m_upL_eq (m : MS) : ∀ (f k v : Nat), m_upL m f k (nI v) = nI (v + cntR (m_up m) k f) := by
  intro f
  induction f with
  | zero => intro k v; rfl
  | succ f ih =>
    intro k v
    unfold m_upL cntR
    by_cases e : m.1 0 k = 0
    · rw [if_pos e, nI_add, ih]
      have : m_up m k = true := by unfold m_up; exact decide_eq_true e
      rw [this, if_pos rfl, Nat.add_assoc]
    · rw [if_neg e, nI_add, ih]
      have : m_up m k = false := by unfold m_up; exact decide_eq_false e
      rw [this, if_neg (by decide), Nat.add_assoc]
