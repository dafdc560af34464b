/-! the class's world: its object, eight arrays, five rows of tallies, the pool of its calls -/
abbrev XS : Type := (Nat → Nat → Int32) × (Nat → Nat → Option Nat) × Int64 × List Nat × (Nat → Nat → Int32)
def xset (st : XS) (k i : Nat) (v : Int32) : XS := (va_up st.1 k (upd (st.1 k) i v), st.2)
def xrf (st : XS) (j i : Nat) (o : Option Nat) : XS := (st.1, va_up st.2.1 j (va_up (st.2.1 j) i o), st.2.2)
def xmk (st : XS) (v : Int64) : XS := (st.1, st.2.1, v, st.2.2.2)
def xc (st : XS) (a f : Nat) (v : Int32) : XS := (st.1, st.2.1, st.2.2.1, st.2.2.2.1, va_up st.2.2.2.2 a (upd (st.2.2.2.2 a) f v))
def xnew (st : XS) (q : Nat) : XS := (st.1, st.2.1, st.2.2.1, st.2.2.2.1 ++ [q], va_up st.2.2.2.2 q (fun _ => 0))
def cfs (f : Nat → Int32) : List Value := [.int (f 0), .int (f 1), .int (f 2), .int (f 3), .int (f 4), .int (f 5), .int (f 6), .int (f 7), .int (f 8), .int (f 9), .int (f 10), .int (f 11)]
def xfs (g : Nat → Nat) (st : XS) : List Value := [.ref (g 1), .ref (g 2), .ref (g 3), .ref (g 4), .ref (g 5), .ref (g 6), .ref (g 7), .ref (g 8), .long st.2.2.1]
def xtl (g : Nat → Nat) : Nat → Option Nat := fun i => if i < 5 then some (g (9 + i)) else none
def xfx (g : Nat → Nat) (K : Nat → ClassId) (st : XS) : va_W := [(g 0, .inr (1, xfs g st)), (g 1, .inl (K 0, 4, .inl (st.1 0))), (g 2, .inl (K 1, 6, .inl (st.1 1))), (g 3, .inl (K 1, 13, .inl (st.1 2))), (g 4, .inl (K 2, 5, .inr (.inr (.inr (.inr (xtl g)))))), (g 5, .inl (K 1, 14, .inl (st.1 3))), (g 6, .inl (K 3, 100, .inr (.inr (.inr (.inr (st.2.1 0)))))), (g 7, .inl (K 3, 100, .inr (.inr (.inr (.inr (st.2.1 1)))))), (g 8, .inl (K 3, 20, .inr (.inr (.inr (.inr (st.2.1 2)))))), (g 9, .inl (K 1, 7, .inl (st.1 4))), (g 10, .inl (K 1, 7, .inl (st.1 5))), (g 11, .inl (K 1, 7, .inl (st.1 6))), (g 12, .inl (K 1, 7, .inl (st.1 7))), (g 13, .inl (K 1, 7, .inl (st.1 8)))]
def xpf (st : XS) : Nat → va_E := fun a => .inr (0, cfs (st.2.2.2.2 a))
def xw (g : Nat → Nat) (K : Nat → ClassId) (st : XS) : va_W := xfx g K st ++ va_pl st.2.2.2.1 (xpf st)
abbrev xty (K : Nat → ClassId) : List (ClassId × FieldType) := [(K 0, .boolean), (K 1, .int), (K 2, .array .int), (K 3, .object RX0)]
def xsz (k : Nat) : Nat := match k with
  | 0 => 4
  | 1 => 6
  | 2 => 13
  | 3 => 14
  | _ => 7
def xpl (k : Nat) : Nat := match k with
  | 0 => 1
  | 1 => 2
  | 2 => 3
  | 3 => 5
  | k + 4 => k + 9
def xrz (j : Nat) : Nat := match j with
  | 2 => 20
  | _ => 100
theorem k9 {k : Nat} (h : k < 9) : k = 0 ∨ k = 1 ∨ k = 2 ∨ k = 3 ∨ k = 4 ∨ k = 5 ∨ k = 6 ∨ k = 7 ∨ k = 8 := by omega
theorem xw_at {g : Nat → Nat} {K : Nat → ClassId} {st : XS} {k : Nat} (h : k < 9) : (xw g K st)[xpl k]? = some (g (xpl k), .inl (mcl K k, xsz k, .inl (st.1 k))) := by
  rcases k9 h with rfl | rfl | rfl | rfl | rfl | rfl | rfl | rfl | rfl <;> rfl
theorem xw_set {g : Nat → Nat} {K : Nat → ClassId} {st : XS} {k i : Nat} {v : Int32} (h : k < 9) : (xw g K st).set (xpl k) (g (xpl k), .inl (mcl K k, xsz k, .inl (upd (st.1 k) i v))) = xw g K (xset st k i v) := by
  rcases k9 h with rfl | rfl | rfl | rfl | rfl | rfl | rfl | rfl | rfl <;> rfl
theorem xw_rat {g : Nat → Nat} {K : Nat → ClassId} {st : XS} {j : Nat} (h : j < 3) : (xw g K st)[6 + j]? = some (g (6 + j), .inl (K 3, xrz j, .inr (.inr (.inr (.inr (st.2.1 j)))))) := by
  rcases (show j = 0 ∨ j = 1 ∨ j = 2 by omega) with rfl | rfl | rfl <;> rfl
theorem xw_rset {g : Nat → Nat} {K : Nat → ClassId} {st : XS} {j i : Nat} {o : Option Nat} (h : j < 3) : (xw g K st).set (6 + j) (g (6 + j), .inl (K 3, xrz j, .inr (.inr (.inr (.inr (va_up (st.2.1 j) i o)))))) = xw g K (xrf st j i o) := by
  rcases (show j = 0 ∨ j = 1 ∨ j = 2 by omega) with rfl | rfl | rfl <;> rfl
theorem cfs_set (f : Nat → Int32) (v : Int32) {k : Nat} (h : k < 12) : (cfs f).set k (.int v) = cfs (upd f k v) := by
  rcases (show k = 0 ∨ k = 1 ∨ k = 2 ∨ k = 3 ∨ k = 4 ∨ k = 5 ∨ k = 6 ∨ k = 7 ∨ k = 8 ∨ k = 9 ∨ k = 10 ∨ k = 11 by omega) with rfl | rfl | rfl | rfl | rfl | rfl | rfl | rfl | rfl | rfl | rfl | rfl <;> rfl
theorem cfs_at (f : Nat → Int32) {k : Nat} (h : k < 12) : (cfs f)[k]? = some (.int (f k)) := by
  rcases (show k = 0 ∨ k = 1 ∨ k = 2 ∨ k = 3 ∨ k = 4 ∨ k = 5 ∨ k = 6 ∨ k = 7 ∨ k = 8 ∨ k = 9 ∨ k = 10 ∨ k = 11 by omega) with rfl | rfl | rfl | rfl | rfl | rfl | rfl | rfl | rfl | rfl | rfl | rfl <;> rfl
theorem xpf_c (st : XS) (a f : Nat) (v : Int32) (h : f < 12) (b : Nat) : va_up (xpf st) a (.inr (0, (cfs (st.2.2.2.2 a)).set f (.int v))) b = xpf (xc st a f v) b := by
  by_cases e : b = a
  · subst e
    simp only [va_up_self, xpf, xc]
    rw [cfs_set _ _ h]
  · rw [va_up_ne _ _ e]
    simp only [xpf, xc]
    rw [va_up_ne _ _ e]
theorem xpf_new (st : XS) (q b : Nat) : va_up (xpf st) q (.inr (0, [.int 0, .int 0, .int 0, .int 0, .int 0, .int 0, .int 0, .int 0, .int 0, .int 0, .int 0, .int 0])) b = xpf (xnew st q) b := by
  by_cases e : b = q
  · subst e
    simp only [va_up_self, xpf, xnew]
    rfl
  · rw [va_up_ne _ _ e]
    simp only [xpf, xnew]
    rw [va_up_ne _ _ e]
section XLAY
variable {p : Program} {l : Launch} {e : Env} {R : Room} {s : State} {m : MethodId} {args : Array Value} {below : List Frame} {meth : Method} {c : Code} {H : Heap} {locs : List Loc} {cells slots : Nat} {Q : State → Prop}
variable {cc : ByteArray} {pc : Nat} {ls : Array Slot} {rest : List Value} {D : va_G} {tys : List (ClassId × FieldType)} {A : Nat → Prop} {st : XS} {y0 : MethodName} {n0 : Nat} {r0 : Option FieldType} {g : Nat → Nat} {K : Nat → ClassId}
theorem x_rec (F : kF p s m args meth c y0 cc n0 r0 D tys) (hI : kI D (xw g K) A s.heap st H locs) : ∃ cellB : Cell, H[g 0]? = some cellB ∧ cellB.vm.isStatics = false ∧ s.vm.findClass RX1 = some cellB.cls :=
  va_recv (ci := 1) (q0 := 0) F.2.2.2.2.2.2.2.1 hI.1 rfl rfl
theorem x_crec {a : Nat} (F : kF p s m args meth c y0 cc n0 r0 D tys) (hI : kI D (xw g K) A s.heap st H locs) (ha : a ∈ st.2.2.2.1) : ∃ cellB : Cell, H[a]? = some cellB ∧ cellB.vm.isStatics = false ∧ s.vm.findClass RX0 = some cellB.cls := by
  obtain ⟨k, hk⟩ := va_pl_get (X := xfx g K st) (f := xpf st) ha
  exact va_recv (ci := 0) (q0 := k) F.2.2.2.2.2.2.2.1 hI.1 rfl hk
theorem x_get (F : kF p s m args meth c y0 cc n0 r0 D tys) (hI : kI D (xw g K) A s.heap st H locs) (k : Nat) (hk : k < 9) {v : Value} (hv : (xfs g st)[k]? = some v) {idx : Nat} {ref : String} (hl : Cond.fieldLink y0.cls idx ref (TX1 k).2.1 (TX1 k).2.2.1 ∈ wsL_law) (hdg : decode cc pc = .ok (.getfield idx, 3))
    (kk : W p l e R s m args below meth c H locs cells slots Q (F0 m (pc + 3) ls (v :: rest))) (hrf : ref = (TX1 k).1 := by rfl) : W p l e R s m args below meth c H locs cells slots Q (F0 m pc ls (.ref (g 0) :: rest)) := by
  subst hrf
  obtain ⟨hx, hb, hr, hml, hown, hts, hlk, hK, -⟩ := F
  exact va_get (D := D) (ci := 1) (v := v) (C := RX1) (T := TX1) (N := 9) hx hb hts inlX1 hown hK hI.1 0 rfl rfl k hk (hts _ hl) (fun _ h9 => h9) hv hdg kk
theorem x_putMk {v : Int64} (F : kF p s m args meth c y0 cc n0 r0 D tys) (hI : kI D (xw g K) A s.heap st H locs) {idx : Nat} (hl : Cond.fieldLink y0.cls idx "CallKeepers" "marks" "J" ∈ wsL_law) (hdg : decode cc pc = .ok (.putfield idx, 3))
    (kk : ∀ (H : Heap) (locs : List Loc), kI D (xw g K) A s.heap (xmk st v) H locs → W p l e R s m args below meth c H locs cells slots Q (F0 m (pc + 3) ls rest)) : W p l e R s m args below meth c H locs cells slots Q (F0 m pc ls (.long v :: .ref (g 0) :: rest)) := by
  obtain ⟨hx, hb, hr, hml, hown, hts, hlk, hK, -⟩ := F
  exact va_put (D := D) (ci := 1) (v := .long v) (ty := .long) (C := RX1) (T := TX1) (N := 9) hx hb hts inlX1 tyX1 tyX1_ok nmX1 hown hK hI.1 hI.2.1 hI.2.2 0 rfl rfl 8 (by decide) (hts _ hl) (fun _ h9 => h9) rfl (by decide +kernel) rfl rfl (Nat.le_of_ble_eq_true rfl) hdg (fun H locs hP hD hS => kk H locs ⟨hP, hD, hS⟩)
theorem x_cget {a : Nat} (F : kF p s m args meth c y0 cc n0 r0 D tys) (hI : kI D (xw g K) A s.heap st H locs) (ha : a ∈ st.2.2.2.1) (k : Nat) (hk : k < 12) {ref : String} (hrf : ref = (TX0 k).1) {idx : Nat} (hl : Cond.fieldLink y0.cls idx ref (TX0 k).2.1 (TX0 k).2.2.1 ∈ wsL_law) (hdg : decode cc pc = .ok (.getfield idx, 3))
    (kk : W p l e R s m args below meth c H locs cells slots Q (F0 m (pc + 3) ls (.int (st.2.2.2.2 a k) :: rest))) : W p l e R s m args below meth c H locs cells slots Q (F0 m pc ls (.ref a :: rest)) := by
  subst hrf
  obtain ⟨q0, hq⟩ := va_pl_get (X := xfx g K st) (f := xpf st) ha
  obtain ⟨hx, hb, hr, hml, hown, hts, hlk, hK, -⟩ := F
  exact va_get (D := D) (ci := 0) (v := .int (st.2.2.2.2 a k)) (C := RX0) (T := TX0) (N := 12) hx hb hts inlX0 hown hK hI.1 q0 hq rfl k hk (hts _ hl) (fun _ h9 => h9) (cfs_at _ hk) hdg kk
theorem x_cput {a : Nat} {v : Int32} (F : kF p s m args meth c y0 cc n0 r0 D tys) (hI : kI D (xw g K) A s.heap st H locs) (ha : a ∈ st.2.2.2.1) (k : Nat) (hk : k < 12) {ref : String} (hrf : ref = (TX0 k).1) {idx : Nat} (hl : Cond.fieldLink y0.cls idx ref (TX0 k).2.1 (TX0 k).2.2.1 ∈ wsL_law) {ty : FieldType} (hd : parseFieldDescriptor (TX0 k).2.2.1 = some ty) (hn : narrow ty (.int v) = .int v) (hfit : fits ty (.int v) = true) (hfin : (TX0 k).2.2.2 = false) (hdg : decode cc pc = .ok (.putfield idx, 3))
    (kk : ∀ (H : Heap) (locs : List Loc), kI D (xw g K) A s.heap (xc st a k v) H locs → W p l e R s m args below meth c H locs cells slots Q (F0 m (pc + 3) ls rest)) : W p l e R s m args below meth c H locs cells slots Q (F0 m pc ls (.int v :: .ref a :: rest)) := by
  subst hrf
  obtain ⟨q0, hq⟩ := va_pl_get (X := xfx g K st) (f := xpf st) ha
  obtain ⟨hx, hb, hr, hml, hown, hts, hlk, hK, -⟩ := F
  refine va_put (D := D) (ci := 0) (v := .int v) (ty := ty) (C := RX0) (T := TX0) (N := 12) hx hb hts inlX0 tyX0 tyX0_ok nmX0 hown hK hI.1 hI.2.1 hI.2.2 q0 hq rfl k hk (hts _ hl) (fun _ h9 => h9) hfin hd hn hfit hk hdg (fun H locs hP hD hS => kk H locs ?_)
  have e1 := va_pl_set (e := .inr (0, (cfs (st.2.2.2.2 a)).set k (.int v))) hI.2.1 ha hq
  have e2 : xfx g K st ++ va_pl st.2.2.2.1 (va_up (xpf st) a (.inr (0, (cfs (st.2.2.2.2 a)).set k (.int v)))) = xw g K (xc st a k v) := congrArg (fun l => xfx g K st ++ l) (va_pl_congr (xpf_c st a k v hk))
  exact ⟨by rw [← e2, ← e1]; exact hP, by rw [← e2, ← e1]; exact hD, hS⟩
theorem x_cputF {a : Nat} {v : Int32} (F : kF p s m args meth c y0 cc n0 r0 D tys) (hI : kI D (xw g K) A s.heap st H locs) (ha : a ∈ st.2.2.2.1) (k : Nat) (hk : k < 12) {idx : Nat} (hl : Cond.fieldLink y0.cls idx (TX0 k).1 (TX0 k).2.1 (TX0 k).2.2.1 ∈ wsL_law) (hd : parseFieldDescriptor (TX0 k).2.2.1 = some .int) (hfin : (TX0 k).2.2.2 = true) (hy : y0.name = "<init>") (hc : (TX0 k).1 = y0.cls) (hdg : decode cc pc = .ok (.putfield idx, 3))
    (kk : ∀ (H : Heap) (locs : List Loc), kI D (xw g K) A s.heap (xc st a k v) H locs → W p l e R s m args below meth c H locs cells slots Q (F0 m (pc + 3) ls rest)) : W p l e R s m args below meth c H locs cells slots Q (F0 m pc ls (.int v :: .ref a :: rest)) := by
  obtain ⟨q0, hq⟩ := va_pl_get (X := xfx g K st) (f := xpf st) ha
  obtain ⟨hx, hb, hr, hml, hown, hts, hlk, hK, hnm⟩ := F
  refine va_putF (D := D) (ci := 0) (v := .int v) (ty := .int) (C := RX0) (T := TX0) (N := 12) hx hb hts inlX0 tyX0 tyX0_ok nmX0 hown hK hI.1 hI.2.1 hI.2.2 q0 hq rfl k hk (hts _ hl) (fun _ h9 => h9) hfin (hnm.trans hy) hc hd rfl rfl hk hdg (fun H locs hP hD hS => kk H locs ?_)
  have e1 := va_pl_set (e := .inr (0, (cfs (st.2.2.2.2 a)).set k (.int v))) hI.2.1 ha hq
  have e2 : xfx g K st ++ va_pl st.2.2.2.1 (va_up (xpf st) a (.inr (0, (cfs (st.2.2.2.2 a)).set k (.int v)))) = xw g K (xc st a k v) := congrArg (fun l => xfx g K st ++ l) (va_pl_congr (xpf_c st a k v hk))
  exact ⟨by rw [← e2, ← e1]; exact hP, by rw [← e2, ← e1]; exact hD, hS⟩
theorem x_ald (F : kF p s m args meth c y0 cc n0 r0 D (xty K)) (hI : kI D (xw g K) A s.heap st H locs) (k : Nat) {i : Nat} {x : Int32} (hi : i < xsz k) (hxi : x = nI i) (hdg : decode cc pc = .ok (.iaload, 1))
    (kk : W p l e R s m args below meth c H locs cells slots Q (F0 m (pc + 1) ls (.int (st.1 k i) :: rest))) (hk : k < 9 := by decide) (h0 : 0 < k := by decide) (hz : xsz k < 2 ^ 31 := by decide) : W p l e R s m args below meth c H locs cells slots Q (F0 m pc ls (.int x :: .ref (g (xpl k)) :: rest)) := by
  subst hxi
  obtain ⟨hx, hb, hr, hml, hown, hts, hlk, hK, -⟩ := F
  have ha := xw_at (g := g) (K := K) (st := st) hk
  rw [mcl_n0 h0] at ha
  refine va_iald hx hb hK hI.1 (xpl k) 1 ha rfl (vp_in_nI hi hz) hdg ?_
  rw [nI_clamp (Nat.lt_trans hi hz)]
  exact kk
theorem x_zald (F : kF p s m args meth c y0 cc n0 r0 D (xty K)) (hI : kI D (xw g K) A s.heap st H locs) (k : Nat) {i : Nat} {x : Int32} (hi : i < xsz k) (hxi : x = nI i) (hdg : decode cc pc = .ok (.baload, 1))
    (kk : W p l e R s m args below meth c H locs cells slots Q (F0 m (pc + 1) ls (.int (st.1 k i) :: rest))) (hk : k = 0 := by decide) : W p l e R s m args below meth c H locs cells slots Q (F0 m pc ls (.int x :: .ref (g (xpl k)) :: rest)) := by
  subst hxi
  subst hk
  obtain ⟨hx, hb, hr, hml, hown, hts, hlk, hK, -⟩ := F
  refine va_zald hx hb hK hI.1 1 0 rfl rfl (vp_in_nI hi (by decide)) hdg ?_
  rw [nI_clamp (Nat.lt_trans hi (by decide))]
  exact kk
theorem x_ast (F : kF p s m args meth c y0 cc n0 r0 D (xty K)) (hI : kI D (xw g K) A s.heap st H locs) (k : Nat) {i : Nat} {x v : Int32} (hi : i < xsz k) (hxi : x = nI i) (hdg : decode cc pc = .ok (.iastore, 1))
    (kk : ∀ (H : Heap) (locs : List Loc), kI D (xw g K) A s.heap (xset st k i v) H locs → W p l e R s m args below meth c H locs cells slots Q (F0 m (pc + 1) ls rest)) (hk : k < 9 := by decide) (h0 : 0 < k := by decide) (hz : xsz k < 2 ^ 31 := by decide) : W p l e R s m args below meth c H locs cells slots Q (F0 m pc ls (.int v :: .int x :: .ref (g (xpl k)) :: rest)) := by
  subst hxi
  obtain ⟨hx, hb, hr, hml, hown, hts, hlk, hK, -⟩ := F
  have ha := xw_at (g := g) (K := K) (st := st) hk
  have he := xw_set (g := g) (K := K) (st := st) (i := i) (v := v) hk
  rw [mcl_n0 h0] at ha he
  refine va_iast hx hb hK hI.1 hI.2.1 hI.2.2 (xpl k) 1 ha rfl (vp_in_nI hi hz) hdg (fun H locs hP hD hS => ?_)
  rw [nI_clamp (Nat.lt_trans hi hz), he] at hP hD
  exact kk H locs ⟨hP, hD, hS⟩
theorem x_zast (F : kF p s m args meth c y0 cc n0 r0 D (xty K)) (hI : kI D (xw g K) A s.heap st H locs) (k : Nat) {i : Nat} {x v : Int32} (hi : i < xsz k) (hxi : x = nI i) (hn : vp_nar .boolean v = v) (hdg : decode cc pc = .ok (.bastore, 1))
    (kk : ∀ (H : Heap) (locs : List Loc), kI D (xw g K) A s.heap (xset st k i v) H locs → W p l e R s m args below meth c H locs cells slots Q (F0 m (pc + 1) ls rest)) (hk : k = 0 := by decide) : W p l e R s m args below meth c H locs cells slots Q (F0 m pc ls (.int v :: .int x :: .ref (g (xpl k)) :: rest)) := by
  subst hxi
  subst hk
  obtain ⟨hx, hb, hr, hml, hown, hts, hlk, hK, -⟩ := F
  refine va_zast hx hb hK hI.1 hI.2.1 hI.2.2 1 0 rfl rfl (vp_in_nI hi (by decide)) hdg (fun H locs hP hD hS => ?_)
  rw [nI_clamp (Nat.lt_trans hi (by decide)), hn] at hP hD
  exact kk H locs ⟨hP, hD, hS⟩
theorem x_tald {s' : Nat} (F : kF p s m args meth c y0 cc n0 r0 D (xty K)) (hI : kI D (xw g K) A s.heap st H locs) (hs : s' < 5) {i : Nat} {x : Int32} (hi : i < 7) (hxi : x = nI i) (hdg : decode cc pc = .ok (.iaload, 1))
    (kk : W p l e R s m args below meth c H locs cells slots Q (F0 m (pc + 1) ls (.int (st.1 (4 + s') i) :: rest))) : W p l e R s m args below meth c H locs cells slots Q (F0 m pc ls (.int x :: .ref (g (9 + s')) :: rest)) := by
  rcases (show s' = 0 ∨ s' = 1 ∨ s' = 2 ∨ s' = 3 ∨ s' = 4 by omega) with rfl | rfl | rfl | rfl | rfl
  · exact x_ald F hI 4 hi hxi hdg kk
  · exact x_ald F hI 5 hi hxi hdg kk
  · exact x_ald F hI 6 hi hxi hdg kk
  · exact x_ald F hI 7 hi hxi hdg kk
  · exact x_ald F hI 8 hi hxi hdg kk
theorem x_tast {s' : Nat} (F : kF p s m args meth c y0 cc n0 r0 D (xty K)) (hI : kI D (xw g K) A s.heap st H locs) (hs : s' < 5) {i : Nat} {x v : Int32} (hi : i < 7) (hxi : x = nI i) (hdg : decode cc pc = .ok (.iastore, 1))
    (kk : ∀ (H : Heap) (locs : List Loc), kI D (xw g K) A s.heap (xset st (4 + s') i v) H locs → W p l e R s m args below meth c H locs cells slots Q (F0 m (pc + 1) ls rest)) : W p l e R s m args below meth c H locs cells slots Q (F0 m pc ls (.int v :: .int x :: .ref (g (9 + s')) :: rest)) := by
  rcases (show s' = 0 ∨ s' = 1 ∨ s' = 2 ∨ s' = 3 ∨ s' = 4 by omega) with rfl | rfl | rfl | rfl | rfl
  · exact x_ast F hI 4 hi hxi hdg kk
  · exact x_ast F hI 5 hi hxi hdg kk
  · exact x_ast F hI 6 hi hxi hdg kk
  · exact x_ast F hI 7 hi hxi hdg kk
  · exact x_ast F hI 8 hi hxi hdg kk
theorem x_tal {s' : Nat} (F : kF p s m args meth c y0 cc n0 r0 D (xty K)) (hI : kI D (xw g K) A s.heap st H locs) (hs : s' < 5) {x : Int32} (hxi : x = nI s') (hdg : decode cc pc = .ok (.aaload, 1))
    (kk : W p l e R s m args below meth c H locs cells slots Q (F0 m (pc + 1) ls (.ref (g (9 + s')) :: rest))) : W p l e R s m args below meth c H locs cells slots Q (F0 m pc ls (.int x :: .ref (g 4) :: rest)) := by
  subst hxi
  obtain ⟨hx, hb, hr, hml, hown, hts, hlk, hK, -⟩ := F
  have hin : vp_in (nI s') 5 := vp_in_nI hs (by decide)
  refine W.aald (v := .ref (g (9 + s'))) (ty := .array .int) hx hb (hI.1 4 _ rfl) ((hK.2 2 _ rfl).1 5 (fun j => va_rf (xtl g j))) rfl (fun q => by cases q) (by show ¬ (nI s' < 0 ∨ (arrV _ _ _).slots.size ≤ _); rw [arrV_size]; exact hin) (by show (arrV _ _ _).slots[_]? = _; rw [nI_clamp (by omega), arrV_read _ _ hs]; simp [xtl, hs, va_rf]) rfl rfl hdg kk
theorem x_rld (F : kF p s m args meth c y0 cc n0 r0 D (xty K)) (hI : kI D (xw g K) A s.heap st H locs) (j : Nat) {i : Nat} {x : Int32} (hi : i < xrz j) (hxi : x = nI i) (hdg : decode cc pc = .ok (.aaload, 1))
    (kk : W p l e R s m args below meth c H locs cells slots Q (F0 m (pc + 1) ls (va_rf (st.2.1 j i) :: rest))) (hj : j < 3 := by decide) (hz : xrz j < 2 ^ 31 := by decide) : W p l e R s m args below meth c H locs cells slots Q (F0 m pc ls (.int x :: .ref (g (6 + j)) :: rest)) := by
  subst hxi
  obtain ⟨hx, hb, hr, hml, hown, hts, hlk, hK, -⟩ := F
  refine va_aldq hx hb hK hI.1 (6 + j) 3 (xw_rat hj) rfl (vp_in_nI hi hz) hdg ?_
  rw [nI_clamp (Nat.lt_trans hi hz)]
  exact kk
theorem x_rst {a : Nat} (F : kF p s m args meth c y0 cc n0 r0 D (xty K)) (hI : kI D (xw g K) A s.heap st H locs) (ha : a ∈ st.2.2.2.1) (j : Nat) {i : Nat} {x : Int32} (hi : i < xrz j) (hxi : x = nI i) (hdg : decode cc pc = .ok (.aastore, 1))
    (kk : ∀ (H : Heap) (locs : List Loc), kI D (xw g K) A s.heap (xrf st j i (some a)) H locs → W p l e R s m args below meth c H locs cells slots Q (F0 m (pc + 1) ls rest)) (hj : j < 3 := by decide) (hz : xrz j < 2 ^ 31 := by decide) : W p l e R s m args below meth c H locs cells slots Q (F0 m pc ls (.ref a :: .int x :: .ref (g (6 + j)) :: rest)) := by
  subst hxi
  obtain ⟨q0, hq⟩ := va_pl_get (X := xfx g K st) (f := xpf st) ha
  obtain ⟨hx, hb, hr, hml, hown, hts, hlk, hK, -⟩ := F
  have he := xw_rset (g := g) (K := K) (st := st) (i := i) (o := some a) hj
  refine va_astq (r := (RX0, TX0, 12)) hx hb hK hI.1 hI.2.1 hI.2.2 (6 + j) 3 q0 0 (xw_rat hj) rfl hq rfl (vp_in_nI hi hz) hdg (fun H locs hP hD hS => ?_)
  rw [nI_clamp (Nat.lt_trans hi hz), he] at hP hD
  exact kk H locs ⟨hP, hD, hS⟩
theorem x_rstN (F : kF p s m args meth c y0 cc n0 r0 D (xty K)) (hI : kI D (xw g K) A s.heap st H locs) (j : Nat) {i : Nat} {x : Int32} (hi : i < xrz j) (hxi : x = nI i) (hdg : decode cc pc = .ok (.aastore, 1))
    (kk : ∀ (H : Heap) (locs : List Loc), kI D (xw g K) A s.heap (xrf st j i none) H locs → W p l e R s m args below meth c H locs cells slots Q (F0 m (pc + 1) ls rest)) (hj : j < 3 := by decide) (hz : xrz j < 2 ^ 31 := by decide) : W p l e R s m args below meth c H locs cells slots Q (F0 m pc ls (.null :: .int x :: .ref (g (6 + j)) :: rest)) := by
  subst hxi
  obtain ⟨hx, hb, hr, hml, hown, hts, hlk, hK, -⟩ := F
  have he := xw_rset (g := g) (K := K) (st := st) (i := i) (o := none) hj
  refine va_astqN hx hb hK hI.1 hI.2.1 hI.2.2 (6 + j) 3 (xw_rat hj) rfl (vp_in_nI hi hz) hdg (fun H locs hP hD hS => ?_)
  rw [nI_clamp (Nat.lt_trans hi hz), he] at hP hD
  exact kk H locs ⟨hP, hD, hS⟩
theorem x_rstQ {o : Option Nat} (F : kF p s m args meth c y0 cc n0 r0 D (xty K)) (hI : kI D (xw g K) A s.heap st H locs) (ho : ∀ a, o = some a → a ∈ st.2.2.2.1) (j : Nat) {i : Nat} {x : Int32} (hi : i < xrz j) (hxi : x = nI i) (hdg : decode cc pc = .ok (.aastore, 1))
    (kk : ∀ (H : Heap) (locs : List Loc), kI D (xw g K) A s.heap (xrf st j i o) H locs → W p l e R s m args below meth c H locs cells slots Q (F0 m (pc + 1) ls rest)) (hj : j < 3 := by decide) (hz : xrz j < 2 ^ 31 := by decide) : W p l e R s m args below meth c H locs cells slots Q (F0 m pc ls (va_rf o :: .int x :: .ref (g (6 + j)) :: rest)) := by
  cases o with
  | none => exact x_rstN F hI j hi hxi hdg kk hj hz
  | some a => exact x_rst F hI (ho a rfl) j hi hxi hdg kk hj hz
theorem x_new (F : kF p s m args meth c y0 cc n0 r0 D tys) (hA : ∀ q, s.heap.size ≤ q → A q) (hI : kI D (xw g K) A s.heap st H locs) {idx : Nat} (hl : Cond.classLink y0.cls idx RX0 ∈ wsL_law) (hl2 : Cond.instantiable RX0 12 ∈ wsL_law) (hl3 : Cond.initialized RX0 ∈ wsL_law) (hcells : cells + 1 ≤ R.cells) (hslots : slots + 12 ≤ R.slots) (hdg : decode cc pc = .ok (.new idx, 3))
    (kk : ∀ (q : Nat) (H : Heap), q ∉ st.2.2.2.1 → kI D (xw g K) A s.heap (xnew st q) H locs → W p l e R s m args below meth c H locs (cells + 1) (slots + 12) Q (F0 m (pc + 3) ls (.ref q :: rest))) : W p l e R s m args below meth c H locs cells slots Q (F0 m pc ls rest) := by
  obtain ⟨hx, hb, hr, hml, hown, hts, hlk, hK, -⟩ := F
  refine va_new (ci := 0) (fs := [.int 0, .int 0, .int 0, .int 0, .int 0, .int 0, .int 0, .int 0, .int 0, .int 0, .int 0, .int 0]) (C := RX0) (T := TX0) (N := 12) hx hb hts inlX0 tyX0 tyX0_ok hown (hts _ hl) (hts _ hl2) (hts _ hl3) hK hI.1 hI.2.1 hI.2.2 hA rfl (fun j hj => by rcases (show j = 0 ∨ j = 1 ∨ j = 2 ∨ j = 3 ∨ j = 4 ∨ j = 5 ∨ j = 6 ∨ j = 7 ∨ j = 8 ∨ j = 9 ∨ j = 10 ∨ j = 11 by omega) with rfl | rfl | rfl | rfl | rfl | rfl | rfl | rfl | rfl | rfl | rfl | rfl <;> rfl) hcells hslots hdg (fun q H hP hD hS => ?_)
  have hq : q ∉ st.2.2.2.1 := va_pl_fresh2 (X := xfx g K st) (f := xpf st) hD
  have e1 : (xfx g K st ++ va_pl st.2.2.2.1 (xpf st)) ++ [(q, .inr (0, [.int 0, .int 0, .int 0, .int 0, .int 0, .int 0, .int 0, .int 0, .int 0, .int 0, .int 0, .int 0]))] = xw g K (xnew st q) := by
    rw [List.append_assoc, va_pl_push hq]
    exact congrArg (fun l => xfx g K st ++ l) (va_pl_congr (xpf_new st q))
  exact kk q H hq ⟨by rw [← e1]; exact hP, by rw [← e1]; exact hD, hS⟩
end XLAY
