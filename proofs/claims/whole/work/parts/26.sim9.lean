/-! settings, and taking, on both sides -/
theorem RR_T2 {x x' : XS} {m m' : MS} {sr : Nat → Nat} {T : Nat} (h : RR x m sr T) (hT : TM x' m') (h1 : x'.2.1 = x.2.1) (h2 : x'.2.2.2 = x.2.2.2) (h3 : ∀ k, k = 0 ∨ k = 2 ∨ k = 3 → x'.1 k = x.1 k) (h4 : ∀ k, k ≠ 11 → k ≠ 1 → m'.1 k = m.1 k) (h5 : m'.2.1 = m.2.1) (h6 : m'.2.2.2 = m.2.2.2) : RR x' m' sr T := by
  obtain ⟨⟨a1, a2, a3, a4, a5, a6⟩, hW, hD, hK, hJ, hS⟩ := h
  have hc : ∀ a f, cf x' a f = cf x a f := fun a f => by unfold cf; rw [h2]
  have hm : ∀ b, b ∈ x.2.2.2.1 → b ∈ x'.2.2.2.1 := fun b hb => by rw [h2]; exact hb
  have hu : m_up m' = m_up m := m_up_c (h4 0 (by decide) (by decide))
  refine ⟨⟨?_, hT, ?_, ?_, ?_, ?_⟩, ?_, ?_, ?_, ?_, ?_⟩
  · rw [h3 0 (by omega), h4 0 (by decide) (by decide)]; exact a1
  · rw [h3 2 (by omega), h4 2 (by decide) (by decide), h4 13 (by decide) (by decide), h5, h6, m_upL_c (h4 0 (by decide) (by decide))]; exact a3
  · rw [h3 3 (by omega), h4 12 (by decide) (by decide)]; exact a4
  · rw [h4 13 (by decide) (by decide)]; exact a5
  · rw [h4 12 (by decide) (by decide)]; exact a6
  · intro n hn
    rw [h1, h4 2 (by decide) (by decide)]
    rcases hW n hn with q | ⟨a, q1, q2⟩
    · exact Or.inl q
    · exact Or.inr ⟨a, q1, RW1_c q2 hm rfl (fun f _ => hc a f) (fun j hj => by rw [h4 j (by omega) (by omega)]) hu⟩
  · intro n hn
    rw [h1, h4 8 (by decide) (by decide)]
    rcases hD n hn with q | ⟨a, q1, q2⟩
    · exact Or.inl q
    · exact Or.inr ⟨a, q1, RD1_c q2 hm rfl (Nat.le_refl _) (fun f _ => hc a f) (by rw [h4 8 (by decide) (by decide)]) (by rw [h4 9 (by decide) (by decide)]) (fun i hi q => ⟨i, by rw [h6]; exact hi, by rw [h1]; exact q⟩)⟩
  · intro i hi
    rw [h1, h6]
    refine ⟨fun q => ?_, (hK i hi).2⟩
    obtain ⟨a, q1, q2⟩ := (hK i hi).1 q
    exact ⟨a, q1, RK1_c q2 hm rfl (Nat.le_refl _) (fun f _ => hc a f) (fun w _ => by rw [h4 10 (by decide) (by decide)])⟩
  · intro i j
    rw [h1, h6]
    exact hJ i j
  · exact ⟨fun a => by rw [h2]; exact hS.1 a, fun a b => by rw [h2]; exact hS.2 a b⟩
theorem leave_sim : ∀ (f i : Nat) (x : XS) (m : MS), i + f = 5 → TM x m → TM (x_leaveL f i x) (m_tallS m f i) ∧ (x_leaveL f i x).2.1 = x.2.1 ∧ (x_leaveL f i x).2.2.2 = x.2.2.2 ∧ (∀ k, k < 4 → (x_leaveL f i x).1 k = x.1 k) ∧ (∀ k, k ≠ 11 → (m_tallS m f i).1 k = m.1 k) ∧ (m_tallS m f i).2 = m.2 := by
  intro f
  induction f with
  | zero => intro i x m _ h; exact ⟨h, rfl, rfl, fun _ _ => rfl, fun _ _ => rfl, rfl⟩
  | succ f ih =>
    intro i x m hi h
    unfold x_leaveL m_tallS
    have e1 := h.2.1 i 5 (by omega) (by decide)
    have e2 := h.2.1 i 6 (by omega) (by decide)
    have h1 : TM (xset (xadd x (4 + i) 6 (x.1 (4 + i) 5)) (4 + i) 5 (nI 0)) (mset (mset m 11 (7 * i + 6) (m.1 11 (7 * i + 6) + m.1 11 (7 * i + 5))) 11 (7 * i + 5) (nI 0)) := by
      refine TM_set (by omega) (by decide) ?_
      unfold xadd
      rw [e1, e2]
      exact TM_set (by omega) (by decide) h
    obtain ⟨q1, q2, q3, q4, q5, q6⟩ := ih (i + 1) _ _ (by omega) h1
    refine ⟨q1, q2, q3, fun k hk => ?_, fun k hk => ?_, q6⟩
    · rw [q4 k hk, xset_k (by omega), xadd, xset_k (by omega)]
    · rw [q5 k hk, mset_k hk, mset_k hk]
theorem tall1 : ∀ (f i : Nat) (m : MS) (w : Nat) (v : Int32), (m_tallS (mset m 1 w v) f i).1 11 = (m_tallS m f i).1 11 := by
  intro f
  induction f with
  | zero => intro i m w v; exact mset_k (by decide)
  | succ f ih =>
    intro i m w v
    unfold m_tallS
    have e : mset (mset (mset m 1 w v) 11 (7 * i + 6) ((mset m 1 w v).1 11 (7 * i + 6) + (mset m 1 w v).1 11 (7 * i + 5))) 11 (7 * i + 5) (nI 0) = mset (mset (mset m 11 (7 * i + 6) (m.1 11 (7 * i + 6) + m.1 11 (7 * i + 5))) 11 (7 * i + 5) (nI 0)) 1 w v := by
      rw [mset_k (show (11 : Nat) ≠ 1 by decide)]
      unfold mset
      dsimp only
      refine congrArg (fun z => (z, m.2)) (funext fun k => ?_)
      by_cases k1 : k = 1
      · subst k1; simp [va_up]
      · by_cases k2 : k = 11
        · subst k2; simp [va_up]
        · simp [va_up, k1, k2]
    rw [e]
    exact ih (i + 1) _ w v
theorem set_sim {x : XS} {m : MS} {sr : Nat → Nat} {T w : Nat} {v : Int32} (h : RR x m sr T) (hw : w < 6) : x.1 1 w = m.1 1 w ∧ RR (x_setR x w v) (m_setR m w v) sr T := by
  have e1 := h.1.2.1.1 w hw
  refine ⟨e1, ?_⟩
  have a2 := h.1.2.1
  unfold x_setR m_setR
  dsimp only
  rw [e1]
  by_cases c : w = 0 ∧ ¬ m.1 1 w = v
  · rw [if_pos c, if_pos ⟨c.1, fun q => c.2 q.symm⟩]
    obtain ⟨q1, q2, q3, q4, q5, q6⟩ := leave_sim 5 0 x m (by decide) a2
    have p := leave_sim 5 0 x (mset m 1 w v)
    obtain ⟨r5, r6⟩ : (∀ k, k ≠ 11 → (m_tallS (mset m 1 w v) 5 0).1 k = (mset m 1 w v).1 k) ∧ (m_tallS (mset m 1 w v) 5 0).2 = m.2 := by
      have key : ∀ (f i : Nat) (u : MS), (∀ k, k ≠ 11 → (m_tallS u f i).1 k = u.1 k) ∧ (m_tallS u f i).2 = u.2 := by
        intro f
        induction f with
        | zero => intro i u; exact ⟨fun _ _ => rfl, rfl⟩
        | succ f ih =>
          intro i u
          unfold m_tallS
          obtain ⟨s1, s2⟩ := ih (i + 1) (mset (mset u 11 (7 * i + 6) (u.1 11 (7 * i + 6) + u.1 11 (7 * i + 5))) 11 (7 * i + 5) (nI 0))
          exact ⟨fun k hk => by rw [s1 k hk, mset_k hk, mset_k hk], s2⟩
      exact key 5 0 (mset m 1 w v)
    have r11 := tall1 5 0 m w v
    generalize x_leaveL 5 0 x = u at *
    generalize m_tallS (mset m 1 w v) 5 0 = u2 at *
    generalize m_tallS m 5 0 = u3 at *
    refine RR_T2 h ⟨fun j hj => ?_, fun s j hs hj => ?_, ?_⟩ q2 q3 (fun k hk => ?_) (fun k h1 h2 => ?_) ?_ ?_
    · rw [xset_a, r5 1 (by decide), mset_a]
      by_cases e : j = w
      · subst e; rw [pk_us, pk_us]
      · rw [pk_un e, pk_un e, q4 1 (by decide)]; exact a2.1 j hj
    · rw [xset_k (by omega), r11]; exact q1.2.1 s j hs hj
    · show u.2.2.1 = u2.2.2.1
      rw [r6, q1.2.2, q6]
    · rw [xset_k (by omega)]; exact q4 k (by omega)
    · rw [r5 k h1, mset_k h2]
    · rw [r6]
    · rw [r6]
  · rw [if_neg c, if_neg (fun q => c ⟨q.1, fun r => q.2 r.symm⟩)]
    refine RR_T2 h ⟨fun j hj => ?_, fun s j hs hj => ?_, a2.2.2⟩ rfl rfl (fun k hk => xset_k (by omega)) (fun k h1 h2 => mset_k h2) rfl rfl
    · rw [xset_a, mset_a]
      by_cases e : j = w
      · subst e; rw [pk_us, pk_us]
      · rw [pk_un e, pk_un e]; exact a2.1 j hj
    · rw [xset_k (by omega), mset_k (by decide)]; exact a2.2.1 s j hs hj
theorem closeL_row : ∀ (f k : Nat) (st : XS), k + f = 19 → (∀ j, (x_closeL f k st).2.1 2 j = if k ≤ j ∧ j < 19 then st.2.1 2 (j + 1) else st.2.1 2 j) ∧ (x_closeL f k st).2.1 0 = st.2.1 0 ∧ (x_closeL f k st).2.1 1 = st.2.1 1 ∧ (x_closeL f k st).1 = st.1 ∧ (x_closeL f k st).2.2 = st.2.2 := by
  intro f
  induction f with
  | zero => intro k st hk; exact ⟨fun j => by rw [if_neg (by omega)]; rfl, rfl, rfl, rfl, rfl⟩
  | succ f ih =>
    intro k st hk
    unfold x_closeL
    obtain ⟨q1, q2, q3, q4, q5⟩ := ih (k + 1) (xrf st 2 k (st.2.1 2 (k + 1))) (by omega)
    refine ⟨fun j => ?_, q2, q3, q4, q5⟩
    rw [q1 j]
    have e : ∀ j, (xrf st 2 k (st.2.1 2 (k + 1))).2.1 2 j = va_up (st.2.1 2) k (st.2.1 2 (k + 1)) j := fun _ => rfl
    rw [e, e]
    by_cases c : k + 1 ≤ j ∧ j < 19
    · rw [if_pos c, if_pos (by omega), va_up_ne _ _ (by omega)]
    · rw [if_neg c]
      by_cases e1 : j = k
      · subst e1; rw [va_up_self, if_pos (by omega)]
      · rw [va_up_ne _ _ e1, if_neg (by omega)]
theorem shift_k : ∀ (f k : Nat) (st : MS), (∀ j, (m_shift f k st).1 10 j = if k ≤ j ∧ j < k + f then st.1 10 (j + 8) else st.1 10 j) ∧ (∀ j, j ≠ 10 → (m_shift f k st).1 j = st.1 j) ∧ (m_shift f k st).2 = st.2 := by
  intro f
  induction f with
  | zero => intro k st; exact ⟨fun j => by rw [if_neg (by omega)]; rfl, fun _ _ => rfl, rfl⟩
  | succ f ih =>
    intro k st
    unfold m_shift
    obtain ⟨q1, q2, q3⟩ := ih (k + 1) (mcp st 10 k 10 (k + 8))
    refine ⟨fun j => ?_, fun j hj => by rw [q2 j hj, mcp, mset_k hj], q3⟩
    rw [q1 j, mcp, mset_a]
    by_cases c : k + 1 ≤ j ∧ j < k + 1 + f
    · rw [if_pos c, if_pos (by omega), pk_un (by omega)]
    · rw [if_neg c]
      by_cases e1 : j = k
      · subst e1; rw [pk_us, if_pos (by omega)]
      · rw [pk_un e1, if_neg (by omega)]
theorem TM_sub {x : XS} {m : MS} {s i : Nat} (w : Int32) (hs : s < 5) (hi : i < 7) (h : TM x m) : TM (xsub x (4 + s) i w) (mset m 11 (7 * s + i) (m.1 11 (7 * s + i) - w)) := by
  unfold xsub
  rw [h.2.1 s i hs hi]
  exact TM_set hs hi h
theorem take_sim {x : XS} {m : MS} {sr : Nat → Nat} {T i a n sh : Nat} (h : RR x m sr T) (hT : T < 2 ^ 30) (hi : i < m.2.2.2) (hr : x.2.1 2 i = some a) (hn : n < 100) (h0 : cf x a 0 = nI n) (hs : sh < 5) : RR (x_take x i a sh (cf x a 8)) (m_take m i n sh) sr T := by
  obtain ⟨⟨a1, a2, ⟨b0, b1, b2, b3, b4, b5, b6⟩, a4, a5, a6⟩, hW, hD, hK, hJ, hS⟩ := h
  have k1 : RK1 x m sr T i a := by
    obtain ⟨b, r1, r2⟩ := (hK i (by omega)).1 hi
    rw [hr] at r1
    cases r1
    exact r2
  obtain ⟨q1, q2, q3, q4, q5, q6, q7, q8, q9, q10, q11, q12, q13, q14, q15, q16⟩ := k1
  generalize hkm : m.2.2.2 = km at hi b3 b4
  -- the class's side
  obtain ⟨c1, c2, c3, c4, c5⟩ := closeL_row (19 - i) i x (by omega)
  have tmx := TM_add (cf x a 8) hs (show 2 < 7 by decide) (TM_sub (cf x a 8) hs (show 1 < 7 by decide) a2)
  have xt : ∀ s w, (x_take x i a sh (cf x a 8)).1 (4 + s) w = (xadd (xsub x (4 + sh) 1 (cf x a 8)) (4 + sh) 2 (cf x a 8)).1 (4 + s) w := by
    intro s w
    have e : ∀ s, (xc (xc (x_close x i) a 10 (nI 0)) a 11 (nI 1)).1 (4 + s) = x.1 (4 + s) := fun s => by
      show (x_close x i).1 (4 + s) = _
      rw [x_close, xsub, xset_k (by omega)]
      show (x_closeL (19 - i) i x).1 (4 + s) = _
      rw [c4]
    have es : ∀ s, (xsub (xc (xc (x_close x i) a 10 (nI 0)) a 11 (nI 1)) (4 + sh) 1 (cf x a 8)).1 (4 + s) = (xsub x (4 + sh) 1 (cf x a 8)).1 (4 + s) := fun s => by
      unfold xsub
      rw [e sh]
      by_cases c : s = sh
      · subst c; rw [xset_a, xset_a, e s]
      · rw [xset_k (by omega), xset_k (by omega), e s]
    unfold x_take xadd
    rw [es sh]
    by_cases c : s = sh
    · subst c; rw [xset_a, xset_a, es s]
    · rw [xset_k (by omega), xset_k (by omega), es s]
  have xk : ∀ k, k = 0 ∨ k = 1 ∨ k = 3 → (x_take x i a sh (cf x a 8)).1 k = x.1 k := fun k hk => by
    rw [x_take, xadd, xset_k (by omega), xsub, xset_k (by omega)]
    show (x_close x i).1 k = _
    rw [x_close, xsub, xset_k (by omega)]
    show (x_closeL (19 - i) i x).1 k = _
    rw [c4]
  have x2 : ∀ w, (x_take x i a sh (cf x a 8)).1 2 w = if w = 2 then x.1 2 2 - nI 1 else x.1 2 w := fun w => by
    rw [x_take, xadd, xset_k (by omega), xsub, xset_k (by omega)]
    show (x_close x i).1 2 w = _
    rw [x_close, xsub, xset_a]
    have e : (xrf (x_closeL (19 - i) i x) 2 19 none).1 2 = x.1 2 := by show (x_closeL (19 - i) i x).1 2 = _; rw [c4]
    rw [e]
    by_cases c : w = 2
    · rw [c, pk_us, if_pos rfl]
    · rw [pk_un c, if_neg c]
  have xr0 : (x_take x i a sh (cf x a 8)).2.1 0 = x.2.1 0 := by show (x_closeL (19 - i) i x).2.1 0 = _; rw [c2]
  have xr1 : (x_take x i a sh (cf x a 8)).2.1 1 = x.2.1 1 := by show (x_closeL (19 - i) i x).2.1 1 = _; rw [c3]
  have xr2 : ∀ j, j < 20 → (x_take x i a sh (cf x a 8)).2.1 2 j = if j < i then x.2.1 2 j else if j < 19 then x.2.1 2 (j + 1) else none := fun j hj => by
    show va_up ((x_closeL (19 - i) i x).2.1 2) 19 none j = _
    by_cases e : j = 19
    · subst e; rw [va_up_self, if_neg (by omega), if_neg (by omega)]
    · rw [va_up_ne _ _ e, c1 j]
      by_cases c : j < i
      · rw [if_neg (by omega), if_pos c]
      · rw [if_pos (by omega), if_neg c, if_pos (by omega)]
  have xm : (x_take x i a sh (cf x a 8)).2.2.1 = x.2.2.1 := by show (x_closeL (19 - i) i x).2.2.1 = _; rw [c5]
  have xL : (x_take x i a sh (cf x a 8)).2.2.2.1 = x.2.2.2.1 := by show (x_closeL (19 - i) i x).2.2.2.1 = _; rw [c5]
  have ec : ∀ b f, cf (x_close x i) b f = cf x b f := fun b f => by unfold cf; show (x_closeL (19 - i) i x).2.2.2.2 b f = _; rw [c5]
  have ecf : ∀ b f, cf (x_take x i a sh (cf x a 8)) b f = cf (xc (xc (x_close x i) a 10 (nI 0)) a 11 (nI 1)) b f := fun _ _ => rfl
  have xb : ∀ b f, b ≠ a → cf (x_take x i a sh (cf x a 8)) b f = cf x b f := fun b f hb => by rw [ecf, cf_b hb, cf_b hb, ec]
  have xa : ∀ f, f ≠ 10 → f ≠ 11 → cf (x_take x i a sh (cf x a 8)) a f = cf x a f := fun f h1 h2 => by rw [ecf, cf_ne h2, cf_ne h1, ec]
  have xa10 : cf (x_take x i a sh (cf x a 8)) a 10 = nI 0 := by rw [ecf, cf_ne (by decide), cf_eq]
  have xa11 : cf (x_take x i a sh (cf x a 8)) a 11 = nI 1 := by rw [ecf, cf_eq]
  -- the reference's side
  have w8 : m.1 10 (8 * i + 4) = cf x a 8 := q13
  obtain ⟨s1, s2, s3⟩ := shift_k (8 * m.2.2.2 - 8 - 8 * i) (8 * i) (m_tk8 (m_takeA m sh (m.1 10 (8 * i + 4))) i n)
  have t8 : ∀ k, k ≠ 8 → (m_tk8 (m_takeA m sh (m.1 10 (8 * i + 4))) i n).1 k = (m_takeA m sh (m.1 10 (8 * i + 4))).1 k := fun k hk => by unfold m_tk8; split; exact mset_k hk; rfl
  have t82 : (m_tk8 (m_takeA m sh (m.1 10 (8 * i + 4))) i n).2 = m.2 := by unfold m_tk8; split <;> rfl
  have tA : ∀ k, k ≠ 11 → (m_takeA m sh (m.1 10 (8 * i + 4))).1 k = m.1 k := fun k hk => by rw [m_takeA, madd, mset_k hk, mset_k hk]
  have m8 : (m_take m i n sh).1 8 = if m.1 8 n = m.1 10 (8 * i + 7) then upd (m.1 8) n (nI 0) else m.1 8 := by
    show (m_shift _ _ _).1 8 = _
    rw [s2 8 (by decide)]
    unfold m_tk8
    rw [tA 8 (by decide), tA 10 (by decide)]
    split
    · rw [mset_a, tA 8 (by decide)]
    · rw [tA 8 (by decide)]
  have m10 : ∀ j, (m_take m i n sh).1 10 j = if 8 * i ≤ j ∧ j < 8 * i + (8 * m.2.2.2 - 8 - 8 * i) then m.1 10 (j + 8) else m.1 10 j := fun j => by
    show (m_shift _ _ _).1 10 j = _
    rw [s1 j, t8 10 (by decide), tA 10 (by decide)]
  have m11 : (m_take m i n sh).1 11 = (m_takeA m sh (m.1 10 (8 * i + 4))).1 11 := by
    show (m_shift _ _ _).1 11 = _
    rw [s2 11 (by decide), t8 11 (by decide)]
  have mk : ∀ k, k ≠ 8 → k ≠ 10 → k ≠ 11 → (m_take m i n sh).1 k = m.1 k := fun k h1 h2 h3 => by
    show (m_shift _ _ _).1 k = _
    rw [s2 k h2, t8 k h1, tA k h3]
  have mn : (m_take m i n sh).2.1 = m.2.1 := by show (m_shift _ _ _).2.1 = _; rw [s3, t82]
  have mt : (m_take m i n sh).2.2.1 = m.2.2.1 := by show (m_shift _ _ _).2.2.1 = _; rw [s3, t82]
  have mkm' : (m_take m i n sh).2.2.2 = m.2.2.2 - 1 := rfl
  rw [w8] at m11
  rw [hkm] at m10 mkm'
  generalize x_take x i a sh (cf x a 8) = u at xt xk x2 xr0 xr1 xr2 xm xL xb xa xa10 xa11
  generalize m_take m i n sh = v at m8 m10 m11 mk mn mt mkm'
  have hm : ∀ b, b ∈ x.2.2.2.1 → b ∈ u.2.2.2.1 := fun b hb => by rw [xL]; exact hb
  have hu : m_up v = m_up m := m_up_c (mk 0 (by decide) (by decide) (by decide))
  have hrow : ∀ j, j < km → j ≠ i → ∀ b, x.2.1 2 j = some b → b ≠ a := fun j hj hji b hb e => hji (hJ j i (by omega) (by omega) (by rw [hb, hr, e]))
  refine ⟨⟨?_, ⟨?_, ?_, ?_⟩, ⟨?_, ?_, ?_, ?_, ?_, ?_, ?_⟩, ?_, ?_, ?_⟩, ?_, ?_, ?_, ?_, ?_⟩
  · rw [xk 0 (by omega), mk 0 (by decide) (by decide) (by decide)]; exact a1
  · rw [xk 1 (by omega), mk 1 (by decide) (by decide) (by decide)]; exact a2.1
  · intro s w r1 r2
    rw [xt, m11]; exact tmx.2.1 s w r1 r2
  · rw [xm, mt]; exact a2.2.2
  · rw [x2, if_neg (by decide), mn]; exact b0
  · rw [x2, if_neg (by decide), mk 2 (by decide) (by decide) (by decide)]; exact b1
  · rw [mk 2 (by decide) (by decide) (by decide)]; exact b2
  · rw [x2, if_pos rfl, mkm', b3, pk_sub (by omega)]
  · rw [mkm']; omega
  · intro w r1 r2
    rw [x2, if_neg (by omega), mk 13 (by decide) (by decide) (by decide)]; exact b5 w r1 r2
  · rw [x2, if_neg (by decide), m_upL_c (mk 0 (by decide) (by decide) (by decide))]; exact b6
  · rw [xk 3 (by omega), mk 12 (by decide) (by decide) (by decide)]; exact a4
  · rw [mk 13 (by decide) (by decide) (by decide)]; exact a5
  · rw [mk 12 (by decide) (by decide) (by decide)]; exact a6
  · intro j hj
    rw [xr0, mk 2 (by decide) (by decide) (by decide)]
    rcases hW j hj with r | ⟨b, r1, r2⟩
    · exact Or.inl r
    · have hba : b ≠ a := fun e => by
        have := r2.2.1
        rw [e] at this
        omega
      exact Or.inr ⟨b, r1, RW1_c r2 hm rfl (fun f _ => xb b f hba) (fun k hk => by rw [mk k (by omega) (by omega) (by omega)]) hu⟩
  · intro j hj
    rw [xr1]
    rcases hD j hj with ⟨r1, r2⟩ | ⟨b, r1, r2⟩
    · refine Or.inl ⟨r1, ?_⟩
      rw [m8]
      split
      · by_cases e : j = n
        · rw [e, pk_us]
        · rw [pk_un e]; exact r2
      · exact r2
    · refine Or.inr ⟨b, r1, ?_⟩
      by_cases hba : b = a
      · subst hba
        obtain ⟨d1, d2, d3, d4, d5, d6⟩ := r2
        have ejn : j = n := nI_inj (by omega) (by omega) (d4.symm.trans h0)
        subst ejn
        have e8 : m.1 8 j = m.1 10 (8 * i + 7) := by
          rcases d5 with ⟨-, e, -⟩ | ⟨e, -⟩
          · rw [e, q16]
          · rw [q7] at e; exact absurd e (by decide)
        refine ⟨hm b d1, d2, d3, by rw [xa 0 (by decide) (by decide)]; exact d4, Or.inr ⟨xa11, by rw [m8, if_pos e8, pk_us]⟩, Or.inl xa10⟩
      · have e8 : v.1 8 j = m.1 8 j := by
          rw [m8]
          split
          · rename_i c
            by_cases e : j = n
            · subst e
              exfalso
              rw [q16] at c
              rcases r2.2.2.2.2.1 with ⟨-, e, -⟩ | ⟨-, e⟩
              · rw [e] at c
                have hbT := r2.2.2.1
                exact hba (hS.2 a b q1 r2.1 q2 (nI_inj (by omega) (by omega) c).symm).symm
              · rw [e] at c
                have := nI_inj (by omega) (by omega) c
                omega
            · rw [pk_un e]
          · rfl
        refine RD1_c r2 hm rfl (Nat.le_refl _) (fun f _ => xb b f hba) e8 (by rw [mk 9 (by decide) (by decide) (by decide)]) (fun k hk r => ?_)
        have hki : k ≠ i := fun e => by rw [e, hr] at r; cases r; exact hba rfl
        by_cases c : k < i
        · exact ⟨k, by rw [mkm']; omega, by rw [xr2 k (by omega), if_pos c]; exact r⟩
        · exact ⟨k - 1, by rw [mkm']; omega, by rw [xr2 (k - 1) (by omega), if_neg (by omega), if_pos (by omega), show k - 1 + 1 = k by omega]; exact r⟩
  · intro j hj
    rw [xr2 j hj, mkm']
    refine ⟨fun r => ?_, fun r => ?_⟩
    · by_cases c : j < i
      · rw [if_pos c]
        obtain ⟨b, r1, r2⟩ := (hK j hj).1 (by omega)
        have hba := hrow j (by omega) (by omega) b r1
        exact ⟨b, r1, RK1_c r2 hm rfl (Nat.le_refl _) (fun f _ => xb b f hba) (fun w hw => by rw [m10, if_neg (by omega)])⟩
      · rw [if_neg c, if_pos (by omega)]
        obtain ⟨b, r1, r2⟩ := (hK (j + 1) (by omega)).1 (by omega)
        have hba := hrow (j + 1) (by omega) (by omega) b r1
        exact ⟨b, r1, RK1_c r2 hm rfl (Nat.le_refl _) (fun f _ => xb b f hba) (fun w hw => by rw [m10, if_pos (by omega), show 8 * j + w + 8 = 8 * (j + 1) + w by omega])⟩
    · rw [if_neg (by omega)]
      by_cases c : j < 19
      · rw [if_pos c]
        exact (hK (j + 1) (by omega)).2 (by omega)
      · rw [if_neg c]
  · intro j k
    rw [mkm']
    intro hj hk
    rw [xr2 j (by omega), xr2 k (by omega)]
    by_cases cj : j < i <;> by_cases ck : k < i
    · rw [if_pos cj, if_pos ck]
      exact hJ j k (by omega) (by omega)
    · rw [if_pos cj, if_neg ck, if_pos (by omega)]
      intro e
      have := hJ j (k + 1) (by omega) (by omega) e
      omega
    · rw [if_neg cj, if_pos ck, if_pos (by omega)]
      intro e
      have := hJ (j + 1) k (by omega) (by omega) e
      omega
    · rw [if_neg cj, if_neg ck, if_pos (by omega), if_pos (by omega)]
      intro e
      have := hJ (j + 1) (k + 1) (by omega) (by omega) e
      omega
  · exact ⟨fun b => by rw [xL]; exact hS.1 b, fun b c => by rw [xL]; exact hS.2 b c⟩
