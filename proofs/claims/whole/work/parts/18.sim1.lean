/-! the class beside the reference: bits, counts, the relation -/
def tb (p q : Nat) : Bool := p.testBit q
def pop (p : Nat) : Nat := p % 2 + p / 2 % 2 + p / 4 % 2 + p / 8 % 2 + p / 16 % 2 + p / 32 % 2 + p / 64 % 2 + p / 128 % 2
theorem bt_hasX : ∀ p, p < 256 → ∀ q, q < 8 → (decide (¬ nI p &&& (nI 1 <<< (nI q &&& 31)) = 0)) = tb p q := by decide +kernel
theorem bt_hasM : ∀ p, p < 256 → ∀ q, q < 8 → (decide ((nI p >>> (nI q &&& 31)) &&& nI 1 = nI 1)) = tb p q := by decide +kernel
theorem bt_shM : ∀ p, p < 256 → ∀ q, q < 8 → (decide (nI p >>> (nI q &&& 31) = 0)) = decide (p < 2 ^ q) := by decide +kernel
theorem bt_shX : ∀ p, p < 256 → ∀ q, q < 8 → (decide (nI p >>> (nI (q + 1) &&& 31) = 0)) = decide (p < 2 ^ (q + 1)) := by decide +kernel
theorem bt_or : ∀ p, p < 256 → ∀ q, q < 8 → nI p ||| (nI 1 <<< (nI q &&& 31)) = nI (p ||| 2 ^ q) := by decide +kernel
theorem bt_pop : ∀ p, p < 256 → ∀ q, q < 8 → tb p q = false → (p ||| 2 ^ q) < 256 ∧ pop (p ||| 2 ^ q) = pop p + 1 ∧ pop p ≤ 7 ∧ tb (p ||| 2 ^ q) q = true := by decide +kernel
theorem bt_keep : ∀ p, p < 256 → ∀ q, q < 8 → ∀ l, l < 8 → tb p l = true → tb (p ||| 2 ^ q) l = true := by decide +kernel
theorem bt_lt : ∀ p, p < 256 → ∀ q, q < 8 → ∀ l, l < 8 → p < 2 ^ (l + 1) → q ≤ l → (p ||| 2 ^ q) < 2 ^ (l + 1) := by decide +kernel
theorem bt_wh : ∀ p, p < 256 → ∀ l, l < 8 → p < 2 ^ (l + 1) → (decide (nI p &&& (nI 2 <<< (nI l &&& 31) - nI 1) = nI 2 <<< (nI l &&& 31) - nI 1)) = decide (nI p = (nI 1 <<< ((nI l + nI 1) &&& 31)) - nI 1) := by decide +kernel
theorem bt_low : ∀ p, p < 256 → ∀ q, q < 8 → tb p q = false → (p < 2 ^ (q + 1) ↔ p < 2 ^ q) := by decide +kernel
theorem bt_pop8 : ∀ p, p < 256 → pop p ≤ 8 := by decide +kernel
def cntR (P : Nat → Bool) : Nat → Nat → Nat
  | _, 0 => 0
  | n, f + 1 => (if P n = true then 1 else 0) + cntR P (n + 1) f
theorem cntR_congr {P Q : Nat → Bool} : ∀ (f n : Nat), (∀ i, n ≤ i → i < n + f → P i = Q i) → cntR P n f = cntR Q n f := by
  intro f
  induction f with
  | zero => intro n _; rfl
  | succ f ih =>
    intro n h
    unfold cntR
    rw [h n (by omega) (by omega), ih (n + 1) (fun i h1 h2 => h i (by omega) (by omega))]
theorem cntR_del {P Q : Nat → Bool} {i : Nat} : ∀ (f n : Nat), n ≤ i → i < n + f → P i = true → Q i = false → (∀ j, j ≠ i → P j = Q j) → cntR Q n f + 1 = cntR P n f := by
  intro f
  induction f with
  | zero => intro n h1 h2; omega
  | succ f ih =>
    intro n h1 h2 hp hq h
    unfold cntR
    by_cases e : n = i
    · subst e
      rw [hp, hq, cntR_congr (P := Q) (Q := P) f (n + 1) (fun j h3 _ => (h j (by omega)).symm)]
      simp
      omega
    · have := ih (n + 1) (by omega) (by omega) hp hq h
      rw [h n e]
      omega
theorem cntR_le (P : Nat → Bool) : ∀ (f n : Nat), cntR P n f ≤ f := by
  intro f
  induction f with
  | zero => intro n; exact Nat.le_refl _
  | succ f ih =>
    intro n
    unfold cntR
    have := ih (n + 1)
    split <;> omega
theorem cntR_pos {P : Nat → Bool} {i : Nat} : ∀ (f n : Nat), n ≤ i → i < n + f → P i = true → 1 ≤ cntR P n f := by
  intro f
  induction f with
  | zero => intro n h1 h2; omega
  | succ f ih =>
    intro n h1 h2 hp
    unfold cntR
    by_cases e : n = i
    · subst e; rw [hp]; simp
    · have := ih (n + 1) (by omega) (by omega) hp
      omega
def wP (f : Nat → Int32) : Nat → Bool := fun i => decide (¬ f i = -9)
def cntW (f : Nat → Int32) : Nat := cntR (wP f) 0 100
theorem m_wmL_eq (st : MS) : ∀ (f i : Nat) (v : Nat), m_wmL st f i (nI v) = nI (v + cntR (wP (st.1 2)) i f) := by
  intro f
  induction f with
  | zero => intro i v; rfl
  | succ f ih =>
    intro i v
    unfold m_wmL cntR
    by_cases e : st.1 2 i = -9
    · rw [if_pos e, nI_add, ih]
      simp [wP, e]
    · rw [if_neg e, nI_add, ih]
      simp [wP, e]
      congr 1
      omega
theorem m_wm_eq (st : MS) : m_wm st = nI (cntW (st.1 2)) := by
  unfold m_wm cntW
  rw [m_wmL_eq, Nat.zero_add]
theorem cntW_del {f : Nat → Int32} {n : Nat} (hn : n < 100) (h : ¬ f n = -9) : cntW (upd f n (-9)) + 1 = cntW f := by
  unfold cntW
  refine cntR_del (i := n) 100 0 (by omega) (by omega) ?_ ?_ ?_
  · simp [wP, h]
  · simp [wP, pk_us]
  · intro j hj
    simp [wP, pk_un hj]
theorem cntW_add {f : Nat → Int32} {n : Nat} {v : Int32} (hn : n < 100) (h : f n = -9) (hv : ¬ v = -9) : cntW f + 1 = cntW (upd f n v) := by
  unfold cntW
  refine cntR_del (i := n) 100 0 (by omega) (by omega) ?_ ?_ ?_
  · simp [wP, pk_us, hv]
  · simp [wP, h]
  · intro j hj
    simp [wP, pk_un hj]
def PF (p z l : Int32) : Prop := ∃ pn zn, pn < 256 ∧ p = nI pn ∧ z = nI zn ∧ zn ≤ 1000 * pop pn ∧ (l = -9 ∨ ∃ ln, ln < 8 ∧ l = nI ln ∧ tb pn ln = true ∧ pn < 2 ^ (ln + 1))
theorem PF_z {p z l : Int32} (h : PF p z l) : ∃ zn, zn < 8192 ∧ z = nI zn := by
  obtain ⟨pn, zn, h1, h2, h3, h4, -⟩ := h
  have := bt_pop8 pn h1
  exact ⟨zn, by omega, h3⟩
def TM (x : XS) (m : MS) : Prop := (∀ w, w < 6 → x.1 1 w = m.1 1 w) ∧ (∀ s w, s < 5 → w < 7 → x.1 (4 + s) w = m.1 11 (7 * s + w)) ∧ x.2.2.1 = m.2.2.1
theorem TM_mk {x : XS} {m : MS} {v : Int64} (h : TM x m) : TM (xmk x v) (mtr m v) := ⟨h.1, h.2.1, rfl⟩
theorem TM_set {x : XS} {m : MS} {s i : Nat} {v : Int32} (hs : s < 5) (hi : i < 7) (h : TM x m) : TM (xset x (4 + s) i v) (mset m 11 (7 * s + i) v) := by
  refine ⟨fun w hw => ?_, fun s' w hs' hw => ?_, h.2.2⟩
  · rw [xset_k (by omega), mset_k (by decide)]
    exact h.1 w hw
  · rw [mset_a]
    by_cases e : s' = s
    · subst e
      rw [xset_a]
      by_cases e2 : w = i
      · subst e2; rw [pk_us, pk_us]
      · rw [pk_un e2, pk_un (by omega)]; exact h.2.1 s' w hs' hw
    · rw [xset_k (by omega), pk_un (by omega)]
      exact h.2.1 s' w hs' hw
theorem TM_inc {x : XS} {m : MS} {s i : Nat} (hs : s < 5) (hi : i < 7) (h : TM x m) : TM (xinc x (4 + s) i) (m_inc m 11 (7 * s + i)) := by
  unfold xinc m_inc
  rw [h.2.1 s i hs hi]
  exact TM_set hs hi h
theorem TM_fair {x : XS} {m : MS} {s : Nat} (hs : s < 5) (h : TM x m) : (x_fairS x s).1 = (m_fair m s).1 ∧ TM (x_fairS x s).2 (m_fair m s).2 := by
  unfold x_fairS m_fair
  dsimp only
  have h0 : TM (xmk x (x.2.2.1 + 1)) (mtr m (m.2.2.1 + 1)) := by rw [h.2.2]; exact TM_mk h
  have h1 := TM_inc hs (show 5 < 7 by decide) h0
  generalize xinc (xmk x (x.2.2.1 + 1)) (4 + s) 5 = u at h1
  generalize m_inc (mtr m (m.2.2.1 + 1)) 11 (7 * s + 5) = v at h1
  rw [h1.1 0 (by decide), h1.2.1 s 5 hs (by decide)]
  have h2 := TM_set (v := nI 0) hs (show 5 < 7 by decide) h1
  split
  · refine ⟨?_, h2⟩
    dsimp only
    rw [xset_k (by omega)]
    exact h1.1 0 (by decide)
  · exact ⟨rfl, h1⟩
theorem TM_long {x : XS} {m : MS} {s : Nat} (z : Int32) (hs : s < 5) (h : TM x m) : (x_longS x s z).1 = (m_long m s z).1 ∧ TM (x_longS x s z).2 (m_long m s z).2 := by
  unfold x_longS m_long
  dsimp only
  have h0 : TM (xmk x (x.2.2.1 + 10)) (mtr m (m.2.2.1 + 10)) := by rw [h.2.2]; exact TM_mk h
  rw [h0.1 1 (by decide)]
  split
  · exact TM_fair hs h0
  · exact ⟨rfl, h0⟩
theorem TM_rare {x : XS} {m : MS} {s : Nat} (z : Int32) (hs : s < 5) (h : TM x m) : (x_rareS x s z).1 = (m_rare m s z).1 ∧ TM (x_rareS x s z).2 (m_rare m s z).2 := by
  unfold x_rareS m_rare
  dsimp only
  have h0 : TM (xmk x (x.2.2.1 + 100)) (mtr m (m.2.2.1 + 100)) := by rw [h.2.2]; exact TM_mk h
  rw [h0.1 2 (by decide), h0.2.1 s 0 hs (by decide)]
  show (if (mtr m (m.2.2.1 + 100)).1 1 2 ≤ (mtr m (m.2.2.1 + 100)).1 11 (7 * s) then _ else _ : Int32 × XS).1 = (if (mtr m (m.2.2.1 + 100)).1 1 2 ≤ (mtr m (m.2.2.1 + 100)).1 11 (7 * s) then _ else _ : Int32 × MS).1 ∧ TM (if (mtr m (m.2.2.1 + 100)).1 1 2 ≤ (mtr m (m.2.2.1 + 100)).1 11 (7 * s) then _ else _ : Int32 × XS).2 (if (mtr m (m.2.2.1 + 100)).1 1 2 ≤ (mtr m (m.2.2.1 + 100)).1 11 (7 * s) then _ else _ : Int32 × MS).2
  split
  · exact TM_long z hs h0
  · exact ⟨rfl, h0⟩
theorem TM_weigh {x : XS} {m : MS} {s : Nat} (z : Int32) (tn : Bool) (hs : s < 5) (h : TM x m) : (x_weigh x s z tn).1 = (m_weight m s z tn).1 ∧ TM (x_weigh x s z tn).2 (m_weight m s z tn).2 := by
  unfold x_weigh m_weight
  split
  · unfold x_tornS
    dsimp only
    have h0 : TM (xmk x (x.2.2.1 + 1000)) (mtr m (m.2.2.1 + 1000)) := by rw [h.2.2]; exact TM_mk h
    rw [h0.1 3 (by decide)]
    split
    · exact ⟨rfl, TM_inc hs (by decide) h0⟩
    · exact TM_rare z hs h0
  · exact TM_rare z hs h
def RA (x : XS) (m : MS) (T : Nat) : Prop :=
  (∀ k, k < 4 → (x.1 0 k = nI 0 ∧ m.1 0 k = nI 1) ∨ (x.1 0 k = nI 1 ∧ m.1 0 k = nI 0)) ∧ TM x m ∧
  (x.1 2 0 = m.2.1 ∧ x.1 2 1 = nI (cntW (m.1 2)) ∧ cntW (m.1 2) ≤ 24 ∧ x.1 2 2 = nI m.2.2.2 ∧ m.2.2.2 ≤ 20 ∧ (∀ w, 3 ≤ w → w < 12 → x.1 2 w = m.1 13 w) ∧ x.1 2 12 = m_upL m 4 0 (nI 0)) ∧
  (∀ j, j < 14 → x.1 3 j = m.1 12 j) ∧ m.1 13 10 = nI T ∧ ∃ sN, (∀ j, j < 14 → m.1 12 j = nI (sN j)) ∧ sumN sN 14 = T
def RW1 (x : XS) (m : MS) (sr : Nat → Nat) (n a : Nat) : Prop := a ∈ x.2.2.2.1 ∧ sr a = 0 ∧ cf x a 0 = nI n ∧ (∃ sh, sh < 5 ∧ cf x a 1 = nI sh) ∧ cf x a 1 = m.1 4 n ∧ cf x a 2 = m.1 7 n ∧ cf x a 3 = m.1 2 n ∧ cf x a 4 = m.1 3 n ∧ cf x a 5 = m.1 5 n ∧ cf x a 6 = m.1 6 n ∧ cf x a 10 = nI 0 ∧ cf x a 11 = nI 0 ∧ ¬ m.1 2 n = -9 ∧ m.1 2 n = hm (m_up m) n ∧ PF (m.1 3 n) (m.1 5 n) (m.1 6 n)
def RW (x : XS) (m : MS) (sr : Nat → Nat) : Prop := ∀ n, n < 100 → (x.2.1 0 n = none ∧ m.1 2 n = -9) ∨ ∃ a, x.2.1 0 n = some a ∧ RW1 x m sr n a
def RD1 (x : XS) (m : MS) (sr : Nat → Nat) (T n a : Nat) : Prop := a ∈ x.2.2.2.1 ∧ 1 ≤ sr a ∧ sr a ≤ T ∧ cf x a 0 = nI n ∧ ((cf x a 11 = nI 0 ∧ m.1 8 n = nI (sr a) ∧ cf x a 7 = m.1 9 n) ∨ (cf x a 11 = nI 1 ∧ m.1 8 n = nI 0)) ∧ (cf x a 10 = nI 0 ∨ ∃ i, i < m.2.2.2 ∧ x.2.1 2 i = some a)
def RD (x : XS) (m : MS) (sr : Nat → Nat) (T : Nat) : Prop := ∀ n, n < 100 → (x.2.1 1 n = none ∧ m.1 8 n = nI 0) ∨ ∃ a, x.2.1 1 n = some a ∧ RD1 x m sr T n a
def RK1 (x : XS) (m : MS) (sr : Nat → Nat) (T i a : Nat) : Prop := a ∈ x.2.2.2.1 ∧ 1 ≤ sr a ∧ sr a ≤ T ∧ (∃ n, n < 100 ∧ cf x a 0 = nI n) ∧ ((∃ sh, sh < 5 ∧ cf x a 1 = nI sh) ∧ ∃ pn, pn < 256 ∧ cf x a 4 = nI pn) ∧ cf x a 10 = nI 1 ∧ cf x a 11 = nI 0 ∧ (cf x a 9 = nI 0 ∨ cf x a 9 = nI 1) ∧ m.1 10 (8 * i) = cf x a 0 ∧ m.1 10 (8 * i + 1) = cf x a 4 ∧ m.1 10 (8 * i + 2) = cf x a 1 ∧ m.1 10 (8 * i + 3) = cf x a 5 ∧ m.1 10 (8 * i + 4) = cf x a 8 ∧ m.1 10 (8 * i + 5) = cf x a 9 ∧ m.1 10 (8 * i + 6) = cf x a 7 ∧ m.1 10 (8 * i + 7) = nI (sr a)
def RK (x : XS) (m : MS) (sr : Nat → Nat) (T : Nat) : Prop := ∀ i, i < 20 → (i < m.2.2.2 → ∃ a, x.2.1 2 i = some a ∧ RK1 x m sr T i a) ∧ (m.2.2.2 ≤ i → x.2.1 2 i = none)
def RJ (x : XS) (m : MS) : Prop := ∀ i j, i < m.2.2.2 → j < m.2.2.2 → x.2.1 2 i = x.2.1 2 j → i = j
def RS (x : XS) (sr : Nat → Nat) (T : Nat) : Prop := (∀ a, a ∈ x.2.2.2.1 → sr a ≤ T) ∧ ∀ a b, a ∈ x.2.2.2.1 → b ∈ x.2.2.2.1 → 1 ≤ sr a → sr a = sr b → a = b
def RR (x : XS) (m : MS) (sr : Nat → Nat) (T : Nat) : Prop := RA x m T ∧ RW x m sr ∧ RD x m sr T ∧ RK x m sr T ∧ RJ x m ∧ RS x sr T
