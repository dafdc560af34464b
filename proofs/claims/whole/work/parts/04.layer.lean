/-! the layer: one list of words for all methods, one form of contract, calls that pass the whole world -/
theorem bg_good : wsL_law.all goodWord = true := by decide +kernel
theorem bg_in {c0 : Cond} : GoodIn (c0 :: wsL_law) wsL_law := goodIn_sub (fun _ h => List.mem_cons_of_mem _ h) bg_good
theorem bg_one {w : Cond} {c0 : Cond} (h : w ∈ wsL_law) : w ∈ c0 :: wsL_law ∧ ((w.onTables && w.keeps) = true ∨ ∃ ty, w = .arrayClass ty) := bg_in (c0 := c0) w h
theorem bg_self {w : Cond} (h : w ∈ wsL_law) : w ∈ wsL_law ∧ ((w.onTables && w.keeps) = true ∨ ∃ ty, w = .arrayClass ty) := ⟨h, good_of_word (List.all_eq_true.mp bg_good w h)⟩
abbrev cls3 : List vw_C := [(RX0, TX0, 12), (RX1, TX1, 9), (RX2, TX2, 18)]
def kI {S : Type} (D : va_G) (wo : S → va_W) (A : Nat → Prop) (H0 : Heap) (st : S) (H : Heap) (locs : List Loc) : Prop := va_P D cls3 (wo st) H ∧ va_D A (wo st) ∧ va_S A H0 H locs
def kQ {S : Type} (D : va_G) (tys : List (ClassId × FieldType)) (wo : S → va_W) (post : Option Value → S → Prop) (A : Nat → Prop) : Array Value → State → Outcome → State → Prop := fun _ s0 oc t => (∃ (v : Option Value) (u : S), oc = .returned v ∧ post v u ∧ va_P D cls3 (wo u) t.heap ∧ va_K D cls3 tys t ∧ va_D A (wo u)) ∧ va_F A s0 t
def kPre {S : Type} (D : va_G) (tys : List (ClassId × FieldType)) (wo : S → va_W) (st : S) (sz : Nat) (U : State) : Prop := U.heap.size = sz ∧ va_P D cls3 (wo st) U.heap ∧ va_K D cls3 tys U ∧ va_D (fun _ => True) (wo st)
/-- the contract: from a heap that holds (wo st), with the values av, y returns v and the heap holds (wo u), post v u -/
def kM {S : Type} (l : Launch) (y : MethodName) (cc : ByteArray) (n : Nat) (r : Option FieldType) (fr lo mc ms : Nat) (D : va_G) (tys : List (ClassId × FieldType)) (wo : S → va_W) (av : List Value) (st : S) (post : Option Value → S → Prop) : Prop :=
  ∀ sz : Nat, Met l y (.code y cc n r :: wsL_law) { frames := fr, cells := mc, slots := ms, locals := lo } (va_Pc av (kPre D tys wo st sz)) (kQ D tys wo post (va_A (wo st) sz)) mc ms (va_A (wo st) sz)
def kF (p : Program) (s : State) (m : MethodId) (args : Array Value) (meth : Method) (c : Code) (y : MethodName) (cc : ByteArray) (n : Nat) (r : Option FieldType) (D : va_G) (tys : List (ClassId × FieldType)) : Prop :=
  p.tables.exec = Jvm.exec ∧ c.code = cc ∧ meth.sig.returnType = r ∧ c.maxLocals = n ∧ s.vm.findClass y.cls = some m.cls ∧ (∀ w ∈ wsL_law, w.before args s = true) ∧ meth.locks = false ∧ va_K D cls3 tys s ∧ meth.name = y.name
def kG (own : String) (idx : Nat) (C : String) (y : MethodName) (cc : ByteArray) (n : Nat) (r : Option FieldType) (nP : Nat) : Prop :=
  Cond.methodLink own idx y ∈ wsL_law ∧ Cond.instanceMethod y ∈ wsL_law ∧ Cond.selects C y y ∈ wsL_law ∧ Cond.initialized C ∈ wsL_law ∧ Cond.code y cc n r ∈ wsL_law ∧ (y.cls = C ∧ y.cls ≠ "java/lang/invoke/MethodHandle" ∧ y.cls ≠ "java/lang/invoke/VarHandle" ∧ (parseMethodDescriptor y.desc).map (fun d => d.parameters.length) = some nP)
def kGS (own : String) (idx : Nat) (y : MethodName) (cc : ByteArray) (n : Nat) (r : Option FieldType) (nP : Nat) : Prop :=
  Cond.methodLink own idx y ∈ wsL_law ∧ Cond.static y ∈ wsL_law ∧ Cond.initialized y.cls ∈ wsL_law ∧ Cond.code y cc n r ∈ wsL_law ∧ (y.cls ≠ "java/lang/invoke/MethodHandle" ∧ y.cls ≠ "java/lang/invoke/VarHandle" ∧ (parseMethodDescriptor y.desc).map (fun d => d.parameters.length) = some nP)
def kGI (own : String) (idx : Nat) (y : MethodName) (cc : ByteArray) (n : Nat) (nP : Nat) : Prop :=
  Cond.methodLink own idx y ∈ wsL_law ∧ Cond.instanceMethod y ∈ wsL_law ∧ Cond.initialized y.cls ∈ wsL_law ∧ Cond.code y cc n none ∈ wsL_law ∧ y.name = "<init>" ∧ (y.cls ≠ "java/lang/invoke/MethodHandle" ∧ y.cls ≠ "java/lang/invoke/VarHandle" ∧ (parseMethodDescriptor y.desc).map (fun d => d.parameters.length) = some nP)
theorem kG_in {own C : String} {idx n nP : Nat} {y : MethodName} {cc : ByteArray} {r : Option FieldType} {c0 : Cond} (g : kG own idx C y cc n r nP) : GoodIn (c0 :: wsL_law) (wsV own idx C y (.code y cc n r :: wsL_law)) := by
  obtain ⟨h1, h2, h3, h4, h5, -⟩ := g
  intro w hw
  simp only [wsV, List.mem_append, List.mem_cons, List.not_mem_nil, or_false] at hw
  rcases hw with (rfl | rfl | rfl | rfl) | rfl | hw
  · exact bg_one h1
  · exact bg_one h2
  · exact bg_one h3
  · exact bg_one h4
  · exact bg_one h5
  · exact bg_one hw
theorem kG_inL {own C : String} {idx n nP : Nat} {y : MethodName} {cc : ByteArray} {r : Option FieldType} (g : kG own idx C y cc n r nP) : GoodIn wsL_law (wsV own idx C y (.code y cc n r :: wsL_law)) := by
  obtain ⟨h1, h2, h3, h4, h5, -⟩ := g
  intro w hw
  simp only [wsV, List.mem_append, List.mem_cons, List.not_mem_nil, or_false] at hw
  rcases hw with (rfl | rfl | rfl | rfl) | rfl | hw
  · exact bg_self h1
  · exact bg_self h2
  · exact bg_self h3
  · exact bg_self h4
  · exact bg_self h5
  · exact bg_self hw
theorem kGS_inL {own : String} {idx n nP : Nat} {y : MethodName} {cc : ByteArray} {r : Option FieldType} (g : kGS own idx y cc n r nP) : GoodIn wsL_law (va_wsS own idx y (.code y cc n r :: wsL_law)) := by
  obtain ⟨h1, h2, h3, h4, -⟩ := g
  intro w hw
  simp only [va_wsS, List.mem_append, List.mem_cons, List.not_mem_nil, or_false] at hw
  rcases hw with (rfl | rfl | rfl) | rfl | hw
  · exact bg_self h1
  · exact bg_self h2
  · exact bg_self h3
  · exact bg_self h4
  · exact bg_self hw
theorem kGI_inL {n : Nat} {y : MethodName} {cc : ByteArray} (h4 : Cond.code y cc n none ∈ wsL_law) : GoodIn wsL_law (.code y cc n none :: wsL_law) := by
  intro w hw
  rcases List.mem_cons.mp hw with rfl | hw
  · exact bg_self h4
  · exact bg_self hw
theorem kM_intro {S : Type} {l : Launch} {y : MethodName} {cc : ByteArray} {n : Nat} {r : Option FieldType} {fr lo mc ms : Nat} {D : va_G} {tys : List (ClassId × FieldType)} {wo : S → va_W} {av : List Value} {st : S} {post : Option Value → S → Prop}
    (hy : plainName y.cls = true) (hn : (lg_sl av).length ≤ n)
    (body : ∀ (p : Program) (e : Env) (s : State) (m : MethodId) (below : List Frame) (meth : Method) (c : Code) (A : Nat → Prop) (ls : Array Slot), kF p s m av.toArray meth c y cc n r D tys → (∀ q, s.heap.size ≤ q → A q) → kI D wo A s.heap st s.heap [] → lv_has ls n (lv_args 0 av) →
      W p l e { frames := fr, cells := mc, slots := ms, locals := lo } s m av.toArray below meth c s.heap [] 0 0 (MQ below (kQ D tys wo post A) av.toArray s mc ms A) (F0 m 0 ls [])) : kM l y cc n r fr lo mc ms D tys wo av st post := by
  intro sz
  refine Met.ofW (cc := cc) (maxL := n) (ret := r) hy rfl ?_
  intro p e s m args below meth c s₁ B hml hv
  obtain ⟨rfl, hsz, hP, hK, hD0⟩ := hv
  subst hsz
  have hD := hD0.self (sz := s.heap.size)
  have hts := atoms_spec (ws := .code y cc n r :: wsL_law) B.pre
  have hl := lv_entry av (n := n) hn
  rw [lg_entry_eq]
  exact body p e s m below meth c _ _ ⟨B.exec, B.bytes, B.returns, hml, findClass_of_methodNamed B.named, fun w h => hts w (List.mem_cons_of_mem _ h), B.notSynchronized, hK, (name_of_methodNamed B.named B.method).1⟩ (fun q h => Or.inr h) ⟨hP, hD, va_S.rf⟩ hl
section LAY
variable {p : Program} {l : Launch} {e : Env} {R : Room} {s : State} {m : MethodId} {args : Array Value} {below : List Frame} {meth : Method} {c : Code} {H : Heap} {locs : List Loc} {cells slots : Nat} {Q : State → Prop}
variable {cc : ByteArray} {pc : Nat} {ls : Array Slot} {rest : List Value} {D : va_G} {tys : List (ClassId × FieldType)} {A : Nat → Prop} {S : Type} {wo : S → va_W} {st : S} {post : Option Value → S → Prop} {y0 : MethodName} {n0 : Nat} {r0 : Option FieldType}
theorem kend {v : Option Value} (F : kF p s m args meth c y0 cc n0 r0 D tys) (hI : kI D wo A s.heap st H locs) (hp : post v st) : ∀ t : State, t.heap = H → s.WarmedH t.vm → kQ D tys wo post A args s (.returned v) t := by
  intro t ht hW
  obtain ⟨-, -, -, -, -, -, -, hK, -⟩ := F
  exact ⟨⟨v, st, rfl, hp, by rw [ht]; exact hI.1, va_K.moved hW.alike hK, hI.2.1⟩, hI.2.2.F ht⟩
theorem kret_i {v : Int32} (F : kF p s m args meth c y0 cc n0 (some .int) D tys) (hI : kI D wo A s.heap st H locs) (hdg : decode cc pc = .ok (.ireturn, 1)) (hp : post (some (.int v)) st) : W p l e R s m args below meth c H locs cells slots (MQ below (kQ D tys wo post A) args s cells slots A) (F0 m pc ls [.int v]) :=
  W.iret F.1 F.2.1 F.2.2.1 (kend F hI hp) hI.2.2.2.2 hdg F.2.2.2.2.2.2.1
theorem kret_z {v : Int32} (F : kF p s m args meth c y0 cc n0 (some .boolean) D tys) (hI : kI D wo A s.heap st H locs) (hdg : decode cc pc = .ok (.ireturn, 1)) (hn : narrow .boolean (.int v) = .int v) (hp : post (some (.int v)) st) : W p l e R s m args below meth c H locs cells slots (MQ below (kQ D tys wo post A) args s cells slots A) (F0 m pc ls [.int v]) :=
  W.zret F.1 F.2.1 F.2.2.1 hn (kend F hI hp) hI.2.2.2.2 hdg F.2.2.2.2.2.2.1
theorem kret_l {v : Int64} (F : kF p s m args meth c y0 cc n0 (some .long) D tys) (hI : kI D wo A s.heap st H locs) (hdg : decode cc pc = .ok (.lreturn, 1)) (hp : post (some (.long v)) st) : W p l e R s m args below meth c H locs cells slots (MQ below (kQ D tys wo post A) args s cells slots A) (F0 m pc ls [.long v]) :=
  W.lret F.1 F.2.1 F.2.2.1 (kend F hI hp) hI.2.2.2.2 hdg F.2.2.2.2.2.2.1
theorem kret_v (F : kF p s m args meth c y0 cc n0 none D tys) (hI : kI D wo A s.heap st H locs) (hdg : decode cc pc = .ok (.return_, 1)) (hp : post none st) : W p l e R s m args below meth c H locs cells slots (MQ below (kQ D tys wo post A) args s cells slots A) (F0 m pc ls []) :=
  W.vret F.1 F.2.1 F.2.2.1 (kend F hI hp) hI.2.2.2.2 hdg F.2.2.2.2.2.2.1
theorem kret_q {r : Option Nat} {C : String} (F : kF p s m args meth c y0 cc n0 (some (.object C)) D tys) (hI : kI D wo A s.heap st H locs) (hdg : decode cc pc = .ok (.areturn, 1)) (hp : post (some (va_rf r)) st) : W p l e R s m args below meth c H locs cells slots (MQ below (kQ D tys wo post A) args s cells slots A) (F0 m pc ls [va_rf r]) :=
  W.aret F.1 F.2.1 F.2.2.1 (Or.inl ⟨C, rfl⟩) (va_rf_or r) (kend F hI hp) hI.2.2.2.2 hdg F.2.2.2.2.2.2.1
theorem kblind {av : List Value} {sz : Nat} : FrameBlind (va_Pc av (kPre D tys wo st sz)) := fun a U g mk q => by
  obtain ⟨q0, q1, qP, qK, qD⟩ := q
  exact ⟨q0, q1, qP, va_K.moved (u := U) (U := U.calling g mk a) (Vm.Alike.refl U.vm) qK, qD⟩
theorem kafter {A0 A1 : Nat → Prop} {H0 : Heap} {mc ms : Nat} {free : Addr → Prop} {a : Array Value} {st0 : List Value} (hr : va_Run p l e R s m args below meth c H locs cells slots mc ms (F0 m pc ls st0) rest (kQ D tys wo post A1 a) free) (hS : va_S A0 H0 H locs) (hA : ∀ q, q < H.size → A1 q → A0 q) (hf : ∀ q, free q → A0 q)
    (kk : ∀ (v : Option Value) (u : S) (H1 : Heap) (locs1 : List Loc), post v u → va_P D cls3 (wo u) H1 → va_D A1 (wo u) → H.size ≤ H1.size → (∀ q : Nat, q < H.size → ¬ A1 q → H1[q]? = H[q]?) → va_S A0 H0 H1 locs1 → W p l e R s m args below meth c H1 locs1 (cells + mc) (slots + ms) Q (F0 m (pc + 3) ls (v.toList ++ rest))) : W p l e R s m args below meth c H locs cells slots Q (F0 m pc ls st0) := by
  intro T hT X
  obtain ⟨v, st₀, t, T', L, h0, X', hL, e1, e2, ⟨⟨v2, u, hv, hp, hb1, hb2, hb3⟩, hz, hk⟩, stp⟩ := hr T hT X
  cases hv
  rw [h0] at hz hk
  obtain ⟨t2, a1, b1⟩ := kk v u T'.heap (locs ++ L) hp (by rw [e1]; exact hb1) hb3 (by rw [e1]; exact hz) (fun q h1 h2 => by rw [e1]; exact hk q h1 h2)
    ⟨Nat.le_trans hS.1 (by rw [e1]; exact hz), fun q h1 h2 => by rw [e1, hk q (Nat.lt_of_lt_of_le h1 hS.1) (fun z => h2 (hA q (Nat.lt_of_lt_of_le h1 hS.1) z))]; exact hS.2.1 q h1 h2, fun q hq => by
      rcases List.mem_append.mp hq with h | h
      · exact hS.2.2 q h
      · exact hf _ (hL q h)⟩ T' rfl X'
  exact ⟨t2, stp t2 a1, b1⟩
theorem kfree {H0 : Heap} (hA : ∀ q, H0.size ≤ q → A q) (hI : kI D wo A H0 st H locs) : ∀ q, va_A (wo st) H.size q → A q := by
  intro q h
  rcases h with ⟨k, e, h⟩ | h
  · exact hI.2.1.2 k (q, e) h
  · exact hA q (Nat.le_trans hI.2.2.1 h)
/-- a call of a method on an object of the world: the whole world goes and comes back -/
theorem kcallV {y : MethodName} {cc' : ByteArray} {n' nP idx fr lo mc ms : Nat} {r' : Option FieldType} {C : String} {b : Nat} {As st0 : List Value} (F : kF p s m args meth c y0 cc n0 r0 D tys) (hA : ∀ q, s.heap.size ≤ q → A q) (hI : kI D wo A s.heap st H locs) (hM : kM l y cc' n' r' fr lo mc ms D tys wo (.ref b :: As) st post) (g : kG y0.cls idx C y cc' n' r' nP) (hrec : ∃ cellB : Cell, H[b]? = some cellB ∧ cellB.vm.isStatics = false ∧ s.vm.findClass C = some cellB.cls) (hl : ls.size = n0) (hn : As.length = nP) (hst : st0 = As.reverse ++ .ref b :: rest) (hw : (rest.map fun v => v.category).sum ≤ 8) (hdg : decode cc pc = .ok (.invokevirtual idx, 3)) (hR : fr + 1 ≤ R.frames ∧ 8 + (n' + 11) + lo ≤ R.locals) (hf : cells + mc ≤ R.cells ∧ slots + ms ≤ R.slots)
    (kk : ∀ (v : Option Value) (u : S) (H1 : Heap) (locs1 : List Loc), post v u → kI D wo A s.heap u H1 locs1 → W p l e R s m args below meth c H1 locs1 (cells + mc) (slots + ms) Q (F0 m (pc + 3) ls (v.toList ++ rest))) : W p l e R s m args below meth c H locs cells slots Q (F0 m pc ls st0) := by
  have hFr := kfree hA hI
  obtain ⟨hx, hb, hr, hml, hown, hts, hlk, hK, -⟩ := F
  refine kafter (va_runV (As := As) (rest := rest) ⟨hx, hb, hml, hown, hts⟩ (hM H.size) (cwV nP hts (kG_inL g) rfl rfl rfl g.2.2.2.2.2 hR) ⟨kblind, hrec, fun U hU hW => ⟨rfl, by rw [hU], by rw [hU]; exact hI.1, va_K.moved hW.alike hK, hI.2.1.weaken (fun _ _ _ _ => trivial)⟩⟩ rfl hn hl hst (lv_room (pc := pc) (m := m) (ls := ls) (rest := st0) hw) hdg hf) hI.2.2 (fun q _ h => hFr q h) hFr (fun v u H1 locs1 hp hP1 hD1 hz hk hS => ?_)
  exact kk v u H1 locs1 hp ⟨hP1, hD1.weaken (fun _ _ _ h => hFr _ h), hS⟩
theorem kcallS {y : MethodName} {cc' : ByteArray} {n' nP idx fr lo mc ms : Nat} {r' : Option FieldType} {As st0 : List Value} (F : kF p s m args meth c y0 cc n0 r0 D tys) (hA : ∀ q, s.heap.size ≤ q → A q) (hI : kI D wo A s.heap st H locs) (hM : kM l y cc' n' r' fr lo mc ms D tys wo As st post) (g : kGS y0.cls idx y cc' n' r' nP) (hl : ls.size = n0) (hn : As.length = nP) (hst : st0 = As.reverse ++ rest) (hw : (rest.map fun v => v.category).sum ≤ 8) (hdg : decode cc pc = .ok (.invokestatic idx, 3)) (hR : fr + 1 ≤ R.frames ∧ 8 + (n' + 11) + lo ≤ R.locals) (hf : cells + mc ≤ R.cells ∧ slots + ms ≤ R.slots)
    (kk : ∀ (v : Option Value) (u : S) (H1 : Heap) (locs1 : List Loc), post v u → kI D wo A s.heap u H1 locs1 → W p l e R s m args below meth c H1 locs1 (cells + mc) (slots + ms) Q (F0 m (pc + 3) ls (v.toList ++ rest))) : W p l e R s m args below meth c H locs cells slots Q (F0 m pc ls st0) := by
  have hFr := kfree hA hI
  obtain ⟨hx, hb, hr, hml, hown, hts, hlk, hK, -⟩ := F
  refine kafter (va_runS (As := As) (rest := rest) ⟨hx, hb, hml, hown, hts⟩ (hM H.size) (va_cwS nP hts (kGS_inL g) rfl rfl rfl g.2.2.2.2 hR) ⟨kblind, fun U hU hW => ⟨rfl, by rw [hU], by rw [hU]; exact hI.1, va_K.moved hW.alike hK, hI.2.1.weaken (fun _ _ _ _ => trivial)⟩⟩ rfl hn hl hst (lv_room (pc := pc) (m := m) (ls := ls) (rest := st0) hw) hdg hf) hI.2.2 (fun q _ h => hFr q h) hFr (fun v u H1 locs1 hp hP1 hD1 hz hk hS => ?_)
  exact kk v u H1 locs1 hp ⟨hP1, hD1.weaken (fun _ _ _ h => hFr _ h), hS⟩
theorem kcallI {y : MethodName} {cc' : ByteArray} {n' nP idx fr lo mc ms : Nat} {b : Nat} {As st0 : List Value} (F : kF p s m args meth c y0 cc n0 r0 D tys) (hA : ∀ q, s.heap.size ≤ q → A q) (hI : kI D wo A s.heap st H locs) (hM : kM l y cc' n' none fr lo mc ms D tys wo (.ref b :: As) st post) (g : kGI y0.cls idx y cc' n' nP) (hl : ls.size = n0) (hn : As.length = nP) (hst : st0 = As.reverse ++ .ref b :: rest) (hw : (rest.map fun v => v.category).sum ≤ 8) (hdg : decode cc pc = .ok (.invokespecial idx, 3)) (hR : fr + 1 ≤ R.frames ∧ 8 + (n' + 11) + lo ≤ R.locals) (hf : cells + mc ≤ R.cells ∧ slots + ms ≤ R.slots)
    (kk : ∀ (v : Option Value) (u : S) (H1 : Heap) (locs1 : List Loc), post v u → kI D wo A s.heap u H1 locs1 → W p l e R s m args below meth c H1 locs1 (cells + mc) (slots + ms) Q (F0 m (pc + 3) ls (v.toList ++ rest))) : W p l e R s m args below meth c H locs cells slots Q (F0 m pc ls st0) := by
  have hFr := kfree hA hI
  obtain ⟨hx, hb, hr, hml, hown, hts, hlk, hK, -⟩ := F
  refine kafter (va_runI (As := As) (rest := rest) ⟨hx, hb, hml, hown, hts⟩ (hM H.size) (cwI nP hts (kGI_inL g.2.2.2.1) rfl rfl rfl (hts _ g.2.2.1) (hts _ g.1) (hts _ g.2.1) g.2.2.2.2.1 g.2.2.2.2.2 hR) ⟨kblind, fun U hU hW => ⟨rfl, by rw [hU], by rw [hU]; exact hI.1, va_K.moved hW.alike hK, hI.2.1.weaken (fun _ _ _ _ => trivial)⟩⟩ rfl hn hl hst (lv_room (pc := pc) (m := m) (ls := ls) (rest := st0) hw) hdg hf) hI.2.2 (fun q _ h => hFr q h) hFr (fun v u H1 locs1 hp hP1 hD1 hz hk hS => ?_)
  exact kk v u H1 locs1 hp ⟨hP1, hD1.weaken (fun _ _ _ h => hFr _ h), hS⟩
/-- the top of the stack by another name -/
theorem ktop {x y : Int32} (h : x = y) (k : W p l e R s m args below meth c H locs cells slots Q (F0 m pc ls (.int y :: rest))) : W p l e R s m args below meth c H locs cells slots Q (F0 m pc ls (.int x :: rest)) := h ▸ k
theorem ktopl {x y : Int64} (h : x = y) (k : W p l e R s m args below meth c H locs cells slots Q (F0 m pc ls (.long y :: rest))) : W p l e R s m args below meth c H locs cells slots Q (F0 m pc ls (.long x :: rest)) := h ▸ k
theorem kstk {a b : List Value} (h : a = b) (k : W p l e R s m args below meth c H locs cells slots Q (F0 m pc ls b)) : W p l e R s m args below meth c H locs cells slots Q (F0 m pc ls a) := h ▸ k
end LAY
