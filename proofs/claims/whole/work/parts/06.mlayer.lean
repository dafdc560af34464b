/-! the reference's world: its object, fourteen arrays; its state: arrays, now, trace, keptMany -/
abbrev MS : Type := (Nat → Nat → Int32) × Int32 × Int64 × Nat
def mset (st : MS) (k i : Nat) (v : Int32) : MS := (va_up st.1 k (upd (st.1 k) i v), st.2)
def mnow (st : MS) (v : Int32) : MS := (st.1, v, st.2.2)
def mtr (st : MS) (v : Int64) : MS := (st.1, st.2.1, v, st.2.2.2)
def mkm (st : MS) (n : Nat) : MS := (st.1, st.2.1, st.2.2.1, n)
def msz (k : Nat) : Nat := match k with
  | 0 => 4
  | 1 => 6
  | 10 => 160
  | 11 => 35
  | 12 => 14
  | 13 => 13
  | _ => 100
def mfs (g : Nat → Nat) (st : MS) : List Value := [.int 0, .int st.2.1, .long st.2.2.1, .ref (g 1), .ref (g 2), .ref (g 3), .ref (g 4), .ref (g 5), .ref (g 6), .ref (g 7), .ref (g 8), .ref (g 9), .ref (g 10), .ref (g 11), .int (nI st.2.2.2), .ref (g 12), .ref (g 13), .ref (g 14)]
def mcl (K : Nat → ClassId) (k : Nat) : ClassId := match k with
  | 0 => K 0
  | _ => K 1
def mw (g : Nat → Nat) (K : Nat → ClassId) (st : MS) : va_W := [(g 0, .inr (2, mfs g st)), (g 1, .inl (K 0, 4, .inl (st.1 0))), (g 2, .inl (K 1, 6, .inl (st.1 1))), (g 3, .inl (K 1, 100, .inl (st.1 2))), (g 4, .inl (K 1, 100, .inl (st.1 3))), (g 5, .inl (K 1, 100, .inl (st.1 4))), (g 6, .inl (K 1, 100, .inl (st.1 5))), (g 7, .inl (K 1, 100, .inl (st.1 6))), (g 8, .inl (K 1, 100, .inl (st.1 7))), (g 9, .inl (K 1, 100, .inl (st.1 8))), (g 10, .inl (K 1, 100, .inl (st.1 9))), (g 11, .inl (K 1, 160, .inl (st.1 10))), (g 12, .inl (K 1, 35, .inl (st.1 11))), (g 13, .inl (K 1, 14, .inl (st.1 12))), (g 14, .inl (K 1, 13, .inl (st.1 13)))]
abbrev mty (K : Nat → ClassId) : List (ClassId × FieldType) := [(K 0, .boolean), (K 1, .int)]
theorem k14 {k : Nat} (h : k < 14) : k = 0 ∨ k = 1 ∨ k = 2 ∨ k = 3 ∨ k = 4 ∨ k = 5 ∨ k = 6 ∨ k = 7 ∨ k = 8 ∨ k = 9 ∨ k = 10 ∨ k = 11 ∨ k = 12 ∨ k = 13 := by omega
theorem mw_at {g : Nat → Nat} {K : Nat → ClassId} {st : MS} {k : Nat} (h : k < 14) : (mw g K st)[k + 1]? = some (g (k + 1), .inl (mcl K k, msz k, .inl (st.1 k))) := by
  rcases k14 h with rfl | rfl | rfl | rfl | rfl | rfl | rfl | rfl | rfl | rfl | rfl | rfl | rfl | rfl <;> rfl
theorem mw_set {g : Nat → Nat} {K : Nat → ClassId} {st : MS} {k i : Nat} {v : Int32} (h : k < 14) : (mw g K st).set (k + 1) (g (k + 1), .inl (mcl K k, msz k, .inl (upd (st.1 k) i v))) = mw g K (mset st k i v) := by
  rcases k14 h with rfl | rfl | rfl | rfl | rfl | rfl | rfl | rfl | rfl | rfl | rfl | rfl | rfl | rfl <;> rfl
theorem mcl_n0 {K : Nat → ClassId} {k : Nat} (h : 0 < k) : mcl K k = K 1 := by
  cases k with
  | zero => exact absurd h (by decide)
  | succ n => rfl
theorem kinc (n k : Nat) : nI n + Int32.ofInt (k : Int) = nI (n + k) := nI_add n k
section MLAY
variable {p : Program} {l : Launch} {e : Env} {R : Room} {s : State} {m : MethodId} {args : Array Value} {below : List Frame} {meth : Method} {c : Code} {H : Heap} {locs : List Loc} {cells slots : Nat} {Q : State → Prop}
variable {cc : ByteArray} {pc : Nat} {ls : Array Slot} {rest : List Value} {D : va_G} {tys : List (ClassId × FieldType)} {A : Nat → Prop} {st : MS} {y0 : MethodName} {n0 : Nat} {r0 : Option FieldType} {g : Nat → Nat} {K : Nat → ClassId}
theorem m_rec (F : kF p s m args meth c y0 cc n0 r0 D tys) (hI : kI D (mw g K) A s.heap st H locs) : ∃ cellB : Cell, H[g 0]? = some cellB ∧ cellB.vm.isStatics = false ∧ s.vm.findClass RX2 = some cellB.cls :=
  va_recv (ci := 2) (q0 := 0) F.2.2.2.2.2.2.2.1 hI.1 rfl rfl
theorem m_get (F : kF p s m args meth c y0 cc n0 r0 D tys) (hI : kI D (mw g K) A s.heap st H locs) (k : Nat) (hk : k < 18) {v : Value} (hv : (mfs g st)[k]? = some v) {idx : Nat} {ref : String} (hl : Cond.fieldLink y0.cls idx ref (TX2 k).2.1 (TX2 k).2.2.1 ∈ wsL_law) (hdg : decode cc pc = .ok (.getfield idx, 3))
    (kk : W p l e R s m args below meth c H locs cells slots Q (F0 m (pc + 3) ls (v :: rest))) (hrf : ref = (TX2 k).1 := by rfl) : W p l e R s m args below meth c H locs cells slots Q (F0 m pc ls (.ref (g 0) :: rest)) := by
  subst hrf
  obtain ⟨hx, hb, hr, hml, hown, hts, hlk, hK, -⟩ := F
  exact va_get (D := D) (ci := 2) (v := v) (C := RX2) (T := TX2) (N := 18) hx hb hts inlX2 hown hK hI.1 0 rfl rfl k hk (hts _ hl) (fun _ h9 => h9) hv hdg kk
theorem m_putTh (F : kF p s m args meth c y0 cc n0 r0 D tys) (hI : kI D (mw g K) A s.heap st H locs) {idx : Nat} (hl : Cond.fieldLink y0.cls idx "CallKeepersModel" "thrown" "I" ∈ wsL_law) (hdg : decode cc pc = .ok (.putfield idx, 3))
    (kk : ∀ (H : Heap) (locs : List Loc), kI D (mw g K) A s.heap st H locs → W p l e R s m args below meth c H locs cells slots Q (F0 m (pc + 3) ls rest)) : W p l e R s m args below meth c H locs cells slots Q (F0 m pc ls (.int (nI 0) :: .ref (g 0) :: rest)) := by
  obtain ⟨hx, hb, hr, hml, hown, hts, hlk, hK, -⟩ := F
  exact va_put (D := D) (ci := 2) (v := .int (nI 0)) (ty := .int) (C := RX2) (T := TX2) (N := 18) hx hb hts inlX2 tyX2 tyX2_ok nmX2 hown hK hI.1 hI.2.1 hI.2.2 0 rfl rfl 0 (by decide) (hts _ hl) (fun _ h9 => h9) rfl (by decide +kernel) rfl rfl (Nat.le_of_ble_eq_true rfl) hdg (fun H locs hP hD hS => kk H locs ⟨hP, hD, hS⟩)
theorem m_putNow {v : Int32} (F : kF p s m args meth c y0 cc n0 r0 D tys) (hI : kI D (mw g K) A s.heap st H locs) {idx : Nat} (hl : Cond.fieldLink y0.cls idx "CallKeepersModel" "now" "I" ∈ wsL_law) (hdg : decode cc pc = .ok (.putfield idx, 3))
    (kk : ∀ (H : Heap) (locs : List Loc), kI D (mw g K) A s.heap (mnow st v) H locs → W p l e R s m args below meth c H locs cells slots Q (F0 m (pc + 3) ls rest)) : W p l e R s m args below meth c H locs cells slots Q (F0 m pc ls (.int v :: .ref (g 0) :: rest)) := by
  obtain ⟨hx, hb, hr, hml, hown, hts, hlk, hK, -⟩ := F
  exact va_put (D := D) (ci := 2) (v := .int v) (ty := .int) (C := RX2) (T := TX2) (N := 18) hx hb hts inlX2 tyX2 tyX2_ok nmX2 hown hK hI.1 hI.2.1 hI.2.2 0 rfl rfl 1 (by decide) (hts _ hl) (fun _ h9 => h9) rfl (by decide +kernel) rfl rfl (Nat.le_of_ble_eq_true rfl) hdg (fun H locs hP hD hS => kk H locs ⟨hP, hD, hS⟩)
theorem m_putTr {v : Int64} (F : kF p s m args meth c y0 cc n0 r0 D tys) (hI : kI D (mw g K) A s.heap st H locs) {idx : Nat} (hl : Cond.fieldLink y0.cls idx "CallKeepersModel" "trace" "J" ∈ wsL_law) (hdg : decode cc pc = .ok (.putfield idx, 3))
    (kk : ∀ (H : Heap) (locs : List Loc), kI D (mw g K) A s.heap (mtr st v) H locs → W p l e R s m args below meth c H locs cells slots Q (F0 m (pc + 3) ls rest)) : W p l e R s m args below meth c H locs cells slots Q (F0 m pc ls (.long v :: .ref (g 0) :: rest)) := by
  obtain ⟨hx, hb, hr, hml, hown, hts, hlk, hK, -⟩ := F
  exact va_put (D := D) (ci := 2) (v := .long v) (ty := .long) (C := RX2) (T := TX2) (N := 18) hx hb hts inlX2 tyX2 tyX2_ok nmX2 hown hK hI.1 hI.2.1 hI.2.2 0 rfl rfl 2 (by decide) (hts _ hl) (fun _ h9 => h9) rfl (by decide +kernel) rfl rfl (Nat.le_of_ble_eq_true rfl) hdg (fun H locs hP hD hS => kk H locs ⟨hP, hD, hS⟩)
theorem m_putKm {n : Nat} (F : kF p s m args meth c y0 cc n0 r0 D tys) (hI : kI D (mw g K) A s.heap st H locs) {idx : Nat} (hl : Cond.fieldLink y0.cls idx "CallKeepersModel" "keptMany" "I" ∈ wsL_law) (hdg : decode cc pc = .ok (.putfield idx, 3))
    (kk : ∀ (H : Heap) (locs : List Loc), kI D (mw g K) A s.heap (mkm st n) H locs → W p l e R s m args below meth c H locs cells slots Q (F0 m (pc + 3) ls rest)) : W p l e R s m args below meth c H locs cells slots Q (F0 m pc ls (.int (nI n) :: .ref (g 0) :: rest)) := by
  obtain ⟨hx, hb, hr, hml, hown, hts, hlk, hK, -⟩ := F
  exact va_put (D := D) (ci := 2) (v := .int (nI n)) (ty := .int) (C := RX2) (T := TX2) (N := 18) hx hb hts inlX2 tyX2 tyX2_ok nmX2 hown hK hI.1 hI.2.1 hI.2.2 0 rfl rfl 14 (by decide) (hts _ hl) (fun _ h9 => h9) rfl (by decide +kernel) rfl rfl (Nat.le_of_ble_eq_true rfl) hdg (fun H locs hP hD hS => kk H locs ⟨hP, hD, hS⟩)
theorem m_ald (F : kF p s m args meth c y0 cc n0 r0 D (mty K)) (hI : kI D (mw g K) A s.heap st H locs) (k : Nat) {i : Nat} {x : Int32} (hi : i < msz k) (hxi : x = nI i) (hdg : decode cc pc = .ok (.iaload, 1))
    (kk : W p l e R s m args below meth c H locs cells slots Q (F0 m (pc + 1) ls (.int (st.1 k i) :: rest))) (hk : k < 14 := by decide) (h0 : 0 < k := by decide) (hz : msz k < 2 ^ 31 := by decide) : W p l e R s m args below meth c H locs cells slots Q (F0 m pc ls (.int x :: .ref (g (k + 1)) :: rest)) := by
  subst hxi
  obtain ⟨hx, hb, hr, hml, hown, hts, hlk, hK, -⟩ := F
  have ha := mw_at (g := g) (K := K) (st := st) hk
  rw [mcl_n0 h0] at ha
  refine va_iald hx hb hK hI.1 (k + 1) 1 ha rfl (vp_in_nI hi hz) hdg ?_
  rw [nI_clamp (Nat.lt_trans hi hz)]
  exact kk
theorem m_zald (F : kF p s m args meth c y0 cc n0 r0 D (mty K)) (hI : kI D (mw g K) A s.heap st H locs) (k : Nat) {i : Nat} {x : Int32} (hi : i < msz k) (hxi : x = nI i) (hdg : decode cc pc = .ok (.baload, 1))
    (kk : W p l e R s m args below meth c H locs cells slots Q (F0 m (pc + 1) ls (.int (st.1 k i) :: rest))) (hk : k = 0 := by decide) : W p l e R s m args below meth c H locs cells slots Q (F0 m pc ls (.int x :: .ref (g (k + 1)) :: rest)) := by
  subst hxi
  subst hk
  obtain ⟨hx, hb, hr, hml, hown, hts, hlk, hK, -⟩ := F
  refine va_zald hx hb hK hI.1 1 0 rfl rfl (vp_in_nI hi (by decide)) hdg ?_
  rw [nI_clamp (Nat.lt_trans hi (by decide))]
  exact kk
theorem m_ast (F : kF p s m args meth c y0 cc n0 r0 D (mty K)) (hI : kI D (mw g K) A s.heap st H locs) (k : Nat) {i : Nat} {x v : Int32} (hi : i < msz k) (hxi : x = nI i) (hdg : decode cc pc = .ok (.iastore, 1))
    (kk : ∀ (H : Heap) (locs : List Loc), kI D (mw g K) A s.heap (mset st k i v) H locs → W p l e R s m args below meth c H locs cells slots Q (F0 m (pc + 1) ls rest)) (hk : k < 14 := by decide) (h0 : 0 < k := by decide) (hz : msz k < 2 ^ 31 := by decide) : W p l e R s m args below meth c H locs cells slots Q (F0 m pc ls (.int v :: .int x :: .ref (g (k + 1)) :: rest)) := by
  subst hxi
  obtain ⟨hx, hb, hr, hml, hown, hts, hlk, hK, -⟩ := F
  have ha := mw_at (g := g) (K := K) (st := st) hk
  have he := mw_set (g := g) (K := K) (st := st) (i := i) (v := v) hk
  rw [mcl_n0 h0] at ha he
  refine va_iast hx hb hK hI.1 hI.2.1 hI.2.2 (k + 1) 1 ha rfl (vp_in_nI hi hz) hdg (fun H locs hP hD hS => ?_)
  rw [nI_clamp (Nat.lt_trans hi hz), he] at hP hD
  exact kk H locs ⟨hP, hD, hS⟩
theorem m_zast (F : kF p s m args meth c y0 cc n0 r0 D (mty K)) (hI : kI D (mw g K) A s.heap st H locs) (k : Nat) {i : Nat} {x v : Int32} (hi : i < msz k) (hxi : x = nI i) (hn : vp_nar .boolean v = v) (hdg : decode cc pc = .ok (.bastore, 1))
    (kk : ∀ (H : Heap) (locs : List Loc), kI D (mw g K) A s.heap (mset st k i v) H locs → W p l e R s m args below meth c H locs cells slots Q (F0 m (pc + 1) ls rest)) (hk : k = 0 := by decide) : W p l e R s m args below meth c H locs cells slots Q (F0 m pc ls (.int v :: .int x :: .ref (g (k + 1)) :: rest)) := by
  subst hxi
  subst hk
  obtain ⟨hx, hb, hr, hml, hown, hts, hlk, hK, -⟩ := F
  refine va_zast hx hb hK hI.1 hI.2.1 hI.2.2 1 0 rfl rfl (vp_in_nI hi (by decide)) hdg (fun H locs hP hD hS => ?_)
  rw [nI_clamp (Nat.lt_trans hi (by decide)), hn] at hP hD
  exact kk H locs ⟨hP, hD, hS⟩
end MLAY
