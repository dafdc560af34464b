def va_AOA (ty : FieldType) (U : State) : Prop := (Cond.arrayOver (.array ty)).before #[] U = true
theorem va_AOA.use {ty : FieldType} {A : Array Value} {U : State} (h : va_AOA ty U) : (Cond.arrayOver (.array ty)).before A U = true := h
/-! ===== BEGIN words of one list among another's, by their places ===== -/
theorem goodIn_r {big : List Cond} (ws : List Cond) (ps : List Nat) (hp : ws = ps.filterMap (fun i => big[i]?)) (h : ws.all goodWord = true) : GoodIn big ws := by
  intro w hw
  have h1 := List.all_eq_true.mp h w hw
  rw [hp] at hw
  obtain ⟨i, -, hi⟩ := List.mem_filterMap.mp hw
  have hm : w ∈ big := by first | exact List.mem_of_getElem? hi | exact List.getElem?_mem hi
  exact ⟨hm, good_of_word h1⟩
theorem goodIn_app {big a b : List Cond} (ha : GoodIn big a) (hb : GoodIn big b) : GoodIn big (a ++ b) := fun w h => (List.mem_append.mp h).elim (ha w) (hb w)
theorem goodIn_ca {big a b : List Cond} {c : Cond} (ha : GoodIn big (c :: a)) (hb : GoodIn big b) : GoodIn big (c :: (a ++ b)) := fun w h => (List.mem_cons.mp h).elim (fun e => ha w (List.mem_cons.mpr (Or.inl e))) (fun h => (List.mem_append.mp h).elim (fun h => ha w (List.mem_cons.mpr (Or.inr h))) (hb w))
theorem goodIn_sub {big ws : List Cond} (hm : ∀ w ∈ ws, w ∈ big) (h : ws.all goodWord = true) : GoodIn big ws := fun w hw => ⟨hm w hw, good_of_word (List.all_eq_true.mp h w hw)⟩
/-! ===== END ===== -/

/-! ===== BEGIN new T[n][m]: the outer array a place, the inner ones among the pooled ===== -/
/-- f, but v at every address of l -/
def vr_up {α : Type} (f : Nat → α) (l : List Nat) (v : α) : Nat → α := fun a => if a ∈ l then v else f a
theorem vr_up_in {α : Type} {f : Nat → α} {l : List Nat} {v : α} {a : Nat} (h : a ∈ l) : vr_up f l v a = v := if_pos h
theorem vr_up_ne {α : Type} {f : Nat → α} {l : List Nat} {v : α} {a : Nat} (h : a ∉ l) : vr_up f l v a = f a := if_neg h
theorem vr_rows {L l : List Nat} {f : Nat → va_E} {e : va_E} (h : ∀ a, a ∈ l → a ∉ L) : va_pl L f ++ l.map (fun a => (a, e)) = va_pl (L ++ l) (vr_up f l e) := by
  unfold va_pl
  rw [List.map_append]
  congr 1
  · apply List.map_congr_left
    intro a ha
    rw [vr_up_ne (fun q => h a q ha)]
  · apply List.map_congr_left
    intro a ha
    rw [vr_up_in ha]
theorem vr_lay {X rows : va_W} {x : Nat × va_E} {pl : va_W} {D : va_G} {cl : List vw_C} {H : Heap} (hP : va_P D cl (((X ++ pl) ++ [x]) ++ rows) H) : va_P D cl ((X ++ [x]) ++ (pl ++ rows)) H := by
  rw [List.append_assoc (X ++ pl)] at hP
  have h := va_P.swap hP
  rw [← List.append_assoc X] at h
  have h2 := va_P.swap h
  rw [List.append_assoc (X ++ [x])] at h2
  exact h2
theorem vr_layD {X rows : va_W} {x : Nat × va_E} {pl : va_W} {A : Nat → Prop} (hD : va_D A (((X ++ pl) ++ [x]) ++ rows)) : va_D A ((X ++ [x]) ++ (pl ++ rows)) := by
  rw [List.append_assoc (X ++ pl)] at hD
  have h := va_D.swap hD
  rw [← List.append_assoc X] at h
  have h2 := va_D.swap h
  rw [List.append_assoc (X ++ [x])] at h2
  exact h2
theorem vr_outer (c : ClassId) (N h0 : Nat) : ∀ i : Nat, Jvm.Free.Multi.outerC c N h0 i = arrV c N (fun j => va_rf (if j < i then some (h0 + 1 + j) else none))
  | 0 => by
    show ({ cls := c, slots := Array.replicate N .null, vm := .none } : Cell) = _
    rw [arrV_new]
    refine congrArg (arrV c N) (funext fun j => ?_)
    simp [va_rf]
  | i + 1 => by
    show (Jvm.Free.Multi.outerC c N h0 i).setSlot i (.ref (h0 + 1 + i)) = _
    rw [vr_outer c N h0 i, arrV_store]
    refine congrArg (arrV c N) (funext fun j => ?_)
    by_cases e : j = i
    · subst e
      simp [updV, va_rf]
    · by_cases h : j < i
      · simp [updV, e, h, Nat.lt_succ_of_lt h]
      · simp [updV, e, h, show ¬ j < i + 1 by omega]
section VGM
variable {p : Program} {l : Launch} {e : Env} {R : Room} {s : State} {m : MethodId} {args : Array Value} {below : List Frame} {meth : Method} {c : Code} {H : Heap} {locs : List Loc} {cells slots : Nat} {Q : State → Prop}
variable {cc : ByteArray} {pc : Nat} {ls : Array Slot} {rest : List Value} {D : va_G} {cl : List vw_C} {A : Nat → Prop} {a : Nat} {tys : List (ClassId × FieldType)} {ws : va_W} {H0 : Heap}
theorem va_mna {X : va_W} {L : List Nat} {f : Nat → va_E} {cc : ByteArray} (hexec : p.tables.exec = Jvm.exec) (hb : c.code = cc) {own : String} {index : Nat} {ty : FieldType} {cy : ClassId} (hown : s.vm.findClass own = some m.cls) (hclink : (Cond.classLink own index ("[" ++ (FieldType.array ty).toString)).before args s = true) (hover : va_AOA ty s) (harr : (Cond.arrayClass ty).before args s = true) (hcy : s.vm.findClass (FieldType.array ty).toString = some cy)
    (hK : va_K D cl tys s) (hP : va_P D cl (X ++ va_pl L f) H) (hD : va_D A (X ++ va_pl L f)) (hS : va_S A H0 H locs) (hA : ∀ q, H0.size ≤ q → A q) {n k : Int32} {N' K' : Nat} {z : vp_A} (hn : ¬ n < 0) (hk : ¬ k < 0) (hN : n.toNatClampNeg = N') (hM : k.toNatClampNeg = K')
    (hb1 : N' * 4 ≤ 536870912) (hb2 : K' * componentBytes ty ≤ 536870912) (hb3 : K' ≤ 536870912) (hdf : fits ty (defaultValue ty) = true) (hdd : (defaultValue ty).isDefault = true) (hcells : cells + (1 + N') ≤ R.cells) (hslots : slots + (N' + N' * K') ≤ R.slots) (hz : ∀ c : ClassId, Jvm.Free.Multi.innerC c K' (defaultValue ty) = vp_cell c z) (hdg : decode cc pc = .ok (.multianewarray index 2, 4))
    (kk : ∀ (q : Nat) (r : Nat → Nat) (cA : ClassId) (H1 : Heap), (∀ i j : Nat, i < N' → j < N' → r i = r j → i = j) → (∀ i : Nat, i < N' → r i ∉ L) → va_K D cl (tys ++ [(cA, .array ty)]) s →
      va_P D cl ((X ++ [(q, .inl (cA, N', .inr (.inr (.inr (.inr (fun i => if i < N' then some (r i) else none))))))]) ++ va_pl (L ++ (List.range N').map r) (vr_up f ((List.range N').map r) (.inl (cy, z)))) H1 → va_D A ((X ++ [(q, .inl (cA, N', .inr (.inr (.inr (.inr (fun i => if i < N' then some (r i) else none))))))]) ++ va_pl (L ++ (List.range N').map r) (vr_up f ((List.range N').map r) (.inl (cy, z)))) → va_S A H0 H1 locs →
      W p l e R s m args below meth c H1 locs (cells + 1 + N') (slots + N' + N' * K') Q (F0 m (pc + 4) ls (.ref q :: rest))) : W p l e R s m args below meth c H locs cells slots Q (F0 m pc ls (.int k :: .int n :: rest)) := by
  subst hN
  subst hM
  intro T hT Xs
  obtain ⟨vm₁, cA, comp, -, fA, fC, hO, -, X', step⟩ := Xs.multianewarray2F hexec hown hclink (va_AOA.use hover) harr (g := F0 m pc ls (.int k :: .int n :: rest)) rfl (by rw [hb]; exact hdg) rfl hn hk hb1 hb2 hb3 hdf hdd hcells hslots
  have ec : some cy = some comp := hcy.symm.trans fC
  cases ec
  generalize hF : Jvm.Free.Multi.fill (T.setVm vm₁) cA cy n.toNatClampNeg k.toNatClampNeg (defaultValue ty) n.toNatClampNeg = F at X' step
  have hTh : (T.setVm vm₁).heap = H := hT
  obtain ⟨f1, f2, -, -⟩ := Jvm.Free.Multi.fill_facts (T.setVm vm₁) cA cy n.toNatClampNeg k.toNatClampNeg (defaultValue ty) n.toNatClampNeg
  rw [hF, hTh] at f1 f2
  have hold : ∀ x : Nat, x < H.size → F.heap[x]? = H[x]? := fun x hx => by
    have := Jvm.Free.Multi.fill_old (T.setVm vm₁) cA cy n.toNatClampNeg k.toNatClampNeg (defaultValue ty) (a := x) (by rw [hTh]; exact hx) n.toNatClampNeg
    rw [hF, hTh] at this
    exact this
  have hrow : ∀ j : Nat, j < n.toNatClampNeg → F.heap[H.size + 1 + j]? = some (vp_cell cy z) := fun j hj => by
    have := Jvm.Free.Multi.fill_inner (T.setVm vm₁) cA cy n.toNatClampNeg k.toNatClampNeg (defaultValue ty) n.toNatClampNeg j hj
    rw [hF, hTh, hz] at this
    exact this
  have hout : Jvm.Free.Multi.outerC cA n.toNatClampNeg H.size n.toNatClampNeg = vp_cell cA (n.toNatClampNeg, .inr (.inr (.inr (.inr (fun i => if i < n.toNatClampNeg then some (H.size + 1 + i) else none))))) := by
    rw [vp_cell_q]
    exact vr_outer cA n.toNatClampNeg H.size n.toNatClampNeg
  rw [hout] at f2
  have hlt : ∀ a, a ∈ L → a < H.size := fun a ha => by
    obtain ⟨k9, hk9⟩ := va_pl_get (X := X) (f := f) ha
    exact (hP k9 _ hk9).lt
  have hnl : ∀ i : Nat, i < n.toNatClampNeg → H.size + 1 + i ∉ L := fun i _ h => by
    have := hlt _ h
    omega
  have hnm : ∀ a, a ∈ (List.range n.toNatClampNeg).map (fun i => H.size + 1 + i) → a ∉ L := fun a ha h => by
    obtain ⟨i, -, rfl⟩ := List.mem_map.mp ha
    have := hlt _ h
    omega
  have hP0 : va_P D cl (X ++ va_pl L f) F.heap := hP.kept (fun k9 x hx => hold x.1 ((hP k9 x hx).lt))
  have hP1 : va_P D cl ((X ++ va_pl L f) ++ [(H.size, .inl (cA, n.toNatClampNeg, .inr (.inr (.inr (.inr (fun i => if i < n.toNatClampNeg then some (H.size + 1 + i) else none))))))]) F.heap := hP0.app (fun k9 x hx => by
    have h0 : k9 < 1 := (List.getElem?_eq_some_iff.mp hx).1
    rw [show k9 = 0 by omega] at hx
    cases hx
    exact f2)
  have hP2 : va_P D cl (((X ++ va_pl L f) ++ [(H.size, .inl (cA, n.toNatClampNeg, .inr (.inr (.inr (.inr (fun i => if i < n.toNatClampNeg then some (H.size + 1 + i) else none))))))]) ++ ((List.range n.toNatClampNeg).map (fun i => H.size + 1 + i)).map (fun a => (a, .inl (cy, z)))) F.heap := hP1.app (fun k9 x hx => by
    obtain ⟨a, ha, rfl⟩ := List.mem_map.mp (List.mem_of_getElem? hx)
    obtain ⟨i, hi, rfl⟩ := List.mem_map.mp ha
    exact hrow i (List.mem_range.mp hi))
  have hD2 : va_D A (((X ++ va_pl L f) ++ [(H.size, .inl (cA, n.toNatClampNeg, .inr (.inr (.inr (.inr (fun i => if i < n.toNatClampNeg then some (H.size + 1 + i) else none))))))]) ++ ((List.range n.toNatClampNeg).map (fun i => H.size + 1 + i)).map (fun a => (a, .inl (cy, z)))) := by
    have hD1 := hD.push (e := .inl (cA, n.toNatClampNeg, .inr (.inr (.inr (.inr (fun i => if i < n.toNatClampNeg then some (H.size + 1 + i) else none)))))) hP rfl (hA _ hS.1)
    generalize hW1 : (X ++ va_pl L f) ++ [(H.size, .inl (cA, n.toNatClampNeg, .inr (.inr (.inr (.inr (fun i => if i < n.toNatClampNeg then some (H.size + 1 + i) else none))))))] = W1 at hD1 hP1 ⊢
    have hle : ∀ (k9 : Nat) (x : Nat × va_E), W1[k9]? = some x → x.1 ≤ H.size := fun k9 x hx => by
      rw [← hW1] at hx
      by_cases hl : k9 < (X ++ va_pl L f).length
      · rw [List.getElem?_append_left hl] at hx
        exact Nat.le_of_lt ((hP k9 x hx).lt)
      · rw [List.getElem?_append_right (by omega)] at hx
        have h0 : k9 - (X ++ va_pl L f).length < 1 := (List.getElem?_eq_some_iff.mp hx).1
        rw [show k9 - (X ++ va_pl L f).length = 0 by omega] at hx
        cases hx
        exact Nat.le_refl _
    have hr : ∀ (k9 : Nat) (x : Nat × va_E), (((List.range n.toNatClampNeg).map (fun i => H.size + 1 + i)).map (fun a => ((a, .inl (cy, z)) : Nat × va_E)))[k9]? = some x → x.1 = H.size + 1 + k9 := fun k9 x hx => by
      rw [List.getElem?_map, List.getElem?_map] at hx
      by_cases h9 : k9 < n.toNatClampNeg
      · rw [List.getElem?_range h9] at hx
        cases hx
        rfl
      · have hn0 : (List.range n.toNatClampNeg)[k9]? = none := List.getElem?_eq_none (by rw [List.length_range]; omega)
        rw [hn0] at hx
        cases hx
    refine ⟨fun i j x y hi hj hxy => ?_, fun k9 x hx => ?_⟩
    · by_cases h1 : i < W1.length <;> by_cases h2 : j < W1.length
      · rw [List.getElem?_append_left h1] at hi
        rw [List.getElem?_append_left h2] at hj
        exact hD1.1 i j x y hi hj hxy
      · rw [List.getElem?_append_left h1] at hi
        rw [List.getElem?_append_right (by omega)] at hj
        have := hle _ _ hi
        have := hr _ _ hj
        omega
      · rw [List.getElem?_append_right (by omega)] at hi
        rw [List.getElem?_append_left h2] at hj
        have := hle _ _ hj
        have := hr _ _ hi
        omega
      · rw [List.getElem?_append_right (by omega)] at hi hj
        have := hr _ _ hi
        have := hr _ _ hj
        omega
    · by_cases h1 : k9 < W1.length
      · rw [List.getElem?_append_left h1] at hx
        exact hD1.2 k9 x hx
      · rw [List.getElem?_append_right (by omega)] at hx
        have := hr _ _ hx
        exact hA _ (by have := hS.1; omega)
  have hAr : ArrOfT s cA (.array ty) := fun N9 z9 => by
    obtain ⟨-, k9, hk9, cm9, hkk9⟩ := (hO 0 0 0).1
    exact ⟨(fun q hq => by cases hq), k9, hk9, cm9, hkk9⟩
  have hK2 : va_K D cl (tys ++ [(cA, .array ty)]) s := ⟨hK.1, fun k9 x hx => by
    by_cases hl : k9 < tys.length
    · rw [List.getElem?_append_left hl] at hx
      exact hK.2 k9 x hx
    · rw [List.getElem?_append_right (by omega)] at hx
      have h0 : k9 - tys.length < 1 := (List.getElem?_eq_some_iff.mp hx).1
      rw [show k9 - tys.length = 0 by omega] at hx
      cases hx
      exact ⟨hAr, fA⟩⟩
  obtain ⟨t, a1, b1⟩ := kk H.size (fun i => H.size + 1 + i) cA F.heap (fun i j _ _ h => by have h9 : H.size + 1 + i = H.size + 1 + j := h; omega) hnl hK2 (by rw [← vr_rows hnm]; exact vr_lay hP2) (by rw [← vr_rows hnm]; exact vr_layD hD2) ⟨by rw [f1]; have := hS.1; omega, fun x h1 h2 => (hold x (Nat.lt_of_lt_of_le h1 hS.1)).trans (hS.2.1 x h1 h2), hS.2.2⟩ F rfl X'
  refine ⟨t, step t ?_, b1⟩
  have e : T.heap.size = H.size := by rw [hT]
  rw [e]
  exact a1
end VGM
/-! ===== END ===== -/
/-! ===== BEGIN printed: names, fields, word lists, decode rows ===== -/
def RX0 : String := "CallKeepers$Call"
def TX0 : u_T := fun k => match k with
  | 0 => ("CallKeepers$Call", "number", "I", true)
  | 1 => ("CallKeepers$Call", "shape", "I", true)
  | 2 => ("CallKeepers$Call", "since", "I", true)
  | 3 => ("CallKeepers$Call", "keeper", "I", false)
  | 4 => ("CallKeepers$Call", "pieces", "I", false)
  | 5 => ("CallKeepers$Call", "length", "I", false)
  | 6 => ("CallKeepers$Call", "last", "I", false)
  | 7 => ("CallKeepers$Call", "decidedAt", "I", false)
  | 8 => ("CallKeepers$Call", "weight", "I", false)
  | 9 => ("CallKeepers$Call", "isTorn", "Z", false)
  | 10 => ("CallKeepers$Call", "isKept", "Z", false)
  | _ => ("CallKeepers$Call", "isTaken", "Z", false)
def tyX0 : Nat → FieldType := fun k => match k with
  | 0 => .int
  | 1 => .int
  | 2 => .int
  | 3 => .int
  | 4 => .int
  | 5 => .int
  | 6 => .int
  | 7 => .int
  | 8 => .int
  | 9 => .boolean
  | 10 => .boolean
  | _ => .boolean
abbrev wsX00 : List Cond := u_ws RX0 TX0 12
theorem nmX0 : ∀ a, a < 12 → ∀ b, b < 12 → a ≠ b → (TX0 a).2.1 ≠ (TX0 b).2.1 := by decide +kernel
theorem tyX0_ok : ∀ k, k < 12 → parseFieldDescriptor (TX0 k).2.2.1 = some (tyX0 k) := by decide +kernel
abbrev cX0_init : ByteArray := prog_2_method_1_code
def yX0_init : MethodName := ⟨RX0, "<init>", "(IIII)V"⟩
abbrev cX0_has : ByteArray := prog_2_method_2_code
def yX0_has : MethodName := ⟨RX0, "has", "(I)Z"⟩
abbrev cX0_add : ByteArray := prog_2_method_3_code
def yX0_add : MethodName := ⟨RX0, "add", "(II)V"⟩
abbrev cX0_contradicts : ByteArray := prog_2_method_4_code
def yX0_contradicts : MethodName := ⟨RX0, "contradicts", "(IZ)Z"⟩
abbrev cX0_isWhole : ByteArray := prog_2_method_5_code
def yX0_isWhole : MethodName := ⟨RX0, "isWhole", "()Z"⟩
def RX1 : String := "CallKeepers"
def TX1 : u_T := fun k => match k with
  | 0 => ("CallKeepers", "isUp", "[Z", true)
  | 1 => ("CallKeepers", "settings", "[I", true)
  | 2 => ("CallKeepers", "counts", "[I", true)
  | 3 => ("CallKeepers", "tallies", "[[I", true)
  | 4 => ("CallKeepers", "steps", "[I", true)
  | 5 => ("CallKeepers", "waiting", "[LCallKeepers$Call;", true)
  | 6 => ("CallKeepers", "decided", "[LCallKeepers$Call;", true)
  | 7 => ("CallKeepers", "row", "[LCallKeepers$Call;", true)
  | _ => ("CallKeepers", "marks", "J", false)
def tyX1 : Nat → FieldType := fun k => match k with
  | 0 => .array .boolean
  | 1 => .array .int
  | 2 => .array .int
  | 3 => .array (.array .int)
  | 4 => .array .int
  | 5 => .array (.object "CallKeepers$Call")
  | 6 => .array (.object "CallKeepers$Call")
  | 7 => .array (.object "CallKeepers$Call")
  | _ => .long
abbrev wsX10 : List Cond := u_ws RX1 TX1 9
theorem nmX1 : ∀ a, a < 9 → ∀ b, b < 9 → a ≠ b → (TX1 a).2.1 ≠ (TX1 b).2.1 := by decide +kernel
theorem tyX1_ok : ∀ k, k < 9 → parseFieldDescriptor (TX1 k).2.2.1 = some (tyX1 k) := by decide +kernel
abbrev cX1_init : ByteArray := prog_1_method_1_code
def yX1_init : MethodName := ⟨RX1, "<init>", "()V"⟩
abbrev cX1_keeper : ByteArray := prog_1_method_2_code
def yX1_keeper : MethodName := ⟨RX1, "keeper", "(IZ)I"⟩
abbrev cX1_home : ByteArray := prog_1_method_3_code
def yX1_home : MethodName := ⟨RX1, "home", "(I)I"⟩
abbrev cX1_set : ByteArray := prog_1_method_4_code
def yX1_set : MethodName := ⟨RX1, "set", "(II)I"⟩
abbrev cX1_piece : ByteArray := prog_1_method_5_code
def yX1_piece : MethodName := ⟨RX1, "piece", "(IIZII)I"⟩
abbrev cX1_tick : ByteArray := prog_1_method_6_code
def yX1_tick : MethodName := ⟨RX1, "tick", "(I)I"⟩
abbrev cX1_waits : ByteArray := prog_1_method_7_code
def yX1_waits : MethodName := ⟨RX1, "waits", "(II)I"⟩
abbrev cX1_remembered : ByteArray := prog_1_method_8_code
def yX1_remembered : MethodName := ⟨RX1, "remembered", "(I)I"⟩
abbrev cX1_kept : ByteArray := prog_1_method_9_code
def yX1_kept : MethodName := ⟨RX1, "kept", "(II)I"⟩
abbrev cX1_take : ByteArray := prog_1_method_10_code
def yX1_take : MethodName := ⟨RX1, "take", "(I)I"⟩
abbrev cX1_shape : ByteArray := prog_1_method_11_code
def yX1_shape : MethodName := ⟨RX1, "shape", "(II)I"⟩
abbrev cX1_step : ByteArray := prog_1_method_12_code
def yX1_step : MethodName := ⟨RX1, "step", "(I)I"⟩
abbrev cX1_bound : ByteArray := prog_1_method_13_code
def yX1_bound : MethodName := ⟨RX1, "bound", "(III)I"⟩
abbrev cX1_count : ByteArray := prog_1_method_14_code
def yX1_count : MethodName := ⟨RX1, "count", "(I)I"⟩
abbrev cX1_trace : ByteArray := prog_1_method_15_code
def yX1_trace : MethodName := ⟨RX1, "trace", "()J"⟩
abbrev cX1_isBelow : ByteArray := prog_1_method_16_code
def yX1_isBelow : MethodName := ⟨RX1, "isBelow", "(II)Z"⟩
abbrev cX1_isWithin : ByteArray := prog_1_method_17_code
def yX1_isWithin : MethodName := ⟨RX1, "isWithin", "(III)Z"⟩
abbrev cX1_counted : ByteArray := prog_1_method_18_code
def yX1_counted : MethodName := ⟨RX1, "counted", "(II)I"⟩
abbrev cX1_homeOf : ByteArray := prog_1_method_19_code
def yX1_homeOf : MethodName := ⟨RX1, "homeOf", "(I)I"⟩
abbrev cX1_loseCallsAt : ByteArray := prog_1_method_20_code
def yX1_loseCallsAt : MethodName := ⟨RX1, "loseCallsAt", "(I)V"⟩
abbrev cX1_moveCallsHome : ByteArray := prog_1_method_21_code
def yX1_moveCallsHome : MethodName := ⟨RX1, "moveCallsHome", "()V"⟩
abbrev cX1_stopWaiting : ByteArray := prog_1_method_22_code
def yX1_stopWaiting : MethodName := ⟨RX1, "stopWaiting", "(LCallKeepers$Call;)V"⟩
abbrev cX1_leaveFair : ByteArray := prog_1_method_23_code
def yX1_leaveFair : MethodName := ⟨RX1, "leaveFair", "()V"⟩
abbrev cX1_hearWaiting : ByteArray := prog_1_method_24_code
def yX1_hearWaiting : MethodName := ⟨RX1, "hearWaiting", "(LCallKeepers$Call;IZI)I"⟩
abbrev cX1_takeIn : ByteArray := prog_1_method_25_code
def yX1_takeIn : MethodName := ⟨RX1, "takeIn", "(LCallKeepers$Call;IZI)I"⟩
abbrev cX1_hearDecided : ByteArray := prog_1_method_26_code
def yX1_hearDecided : MethodName := ⟨RX1, "hearDecided", "(LCallKeepers$Call;II)I"⟩
abbrev cX1_recall : ByteArray := prog_1_method_27_code
def yX1_recall : MethodName := ⟨RX1, "recall", "(I)LCallKeepers$Call;"⟩
abbrev cX1_passOneTick : ByteArray := prog_1_method_28_code
def yX1_passOneTick : MethodName := ⟨RX1, "passOneTick", "()V"⟩
abbrev cX1_decide : ByteArray := prog_1_method_29_code
def yX1_decide : MethodName := ⟨RX1, "decide", "(LCallKeepers$Call;Z)V"⟩
abbrev cX1_keepOrLetFall : ByteArray := prog_1_method_30_code
def yX1_keepOrLetFall : MethodName := ⟨RX1, "keepOrLetFall", "(LCallKeepers$Call;)V"⟩
abbrev cX1_keptAt : ByteArray := prog_1_method_31_code
def yX1_keptAt : MethodName := ⟨RX1, "keptAt", "(I)LCallKeepers$Call;"⟩
abbrev cX1_closeRowAt : ByteArray := prog_1_method_32_code
def yX1_closeRowAt : MethodName := ⟨RX1, "closeRowAt", "(I)V"⟩
abbrev cX1_weighTorn : ByteArray := prog_1_method_33_code
def yX1_weighTorn : MethodName := ⟨RX1, "weighTorn", "(LCallKeepers$Call;)I"⟩
abbrev cX1_weighRare : ByteArray := prog_1_method_34_code
def yX1_weighRare : MethodName := ⟨RX1, "weighRare", "(LCallKeepers$Call;)I"⟩
abbrev cX1_weighLong : ByteArray := prog_1_method_35_code
def yX1_weighLong : MethodName := ⟨RX1, "weighLong", "(LCallKeepers$Call;)I"⟩
abbrev cX1_weighFair : ByteArray := prog_1_method_36_code
def yX1_weighFair : MethodName := ⟨RX1, "weighFair", "(LCallKeepers$Call;)I"⟩
abbrev cX1_stepOf : ByteArray := prog_1_method_37_code
def yX1_stepOf : MethodName := ⟨RX1, "stepOf", "(I)I"⟩
abbrev cX1_stepOfShare : ByteArray := prog_1_method_38_code
def yX1_stepOfShare : MethodName := ⟨RX1, "stepOfShare", "(II)I"⟩
def RX2 : String := "CallKeepersModel"
def TX2 : u_T := fun k => match k with
  | 0 => ("CallKeepersModel", "thrown", "I", false)
  | 1 => ("CallKeepersModel", "now", "I", false)
  | 2 => ("CallKeepersModel", "trace", "J", false)
  | 3 => ("CallKeepersModel", "isDown", "[Z", true)
  | 4 => ("CallKeepersModel", "rules", "[I", true)
  | 5 => ("CallKeepersModel", "keeperOf", "[I", true)
  | 6 => ("CallKeepersModel", "pieces", "[I", true)
  | 7 => ("CallKeepersModel", "shapeOf", "[I", true)
  | 8 => ("CallKeepersModel", "length", "[I", true)
  | 9 => ("CallKeepersModel", "last", "[I", true)
  | 10 => ("CallKeepersModel", "came", "[I", true)
  | 11 => ("CallKeepersModel", "decision", "[I", true)
  | 12 => ("CallKeepersModel", "decidedAt", "[I", true)
  | 13 => ("CallKeepersModel", "kept", "[I", true)
  | 14 => ("CallKeepersModel", "keptMany", "I", false)
  | 15 => ("CallKeepersModel", "sums", "[I", true)
  | 16 => ("CallKeepersModel", "steps", "[I", true)
  | _ => ("CallKeepersModel", "counts", "[I", true)
def tyX2 : Nat → FieldType := fun k => match k with
  | 0 => .int
  | 1 => .int
  | 2 => .long
  | 3 => .array .boolean
  | 4 => .array .int
  | 5 => .array .int
  | 6 => .array .int
  | 7 => .array .int
  | 8 => .array .int
  | 9 => .array .int
  | 10 => .array .int
  | 11 => .array .int
  | 12 => .array .int
  | 13 => .array .int
  | 14 => .int
  | 15 => .array .int
  | 16 => .array .int
  | _ => .array .int
abbrev wsX20 : List Cond := u_ws RX2 TX2 18
theorem nmX2 : ∀ a, a < 18 → ∀ b, b < 18 → a ≠ b → (TX2 a).2.1 ≠ (TX2 b).2.1 := by decide +kernel
theorem tyX2_ok : ∀ k, k < 18 → parseFieldDescriptor (TX2 k).2.2.1 = some (tyX2 k) := by decide +kernel
abbrev cX2_init : ByteArray := prog_4_method_1_code
def yX2_init : MethodName := ⟨RX2, "<init>", "()V"⟩
abbrev cX2_in : ByteArray := prog_4_method_3_code
def yX2_in : MethodName := ⟨RX2, "in", "(III)Z"⟩
abbrev cX2_homeOf : ByteArray := prog_4_method_4_code
def yX2_homeOf : MethodName := ⟨RX2, "homeOf", "(I)I"⟩
abbrev cX2_keeper : ByteArray := prog_4_method_5_code
def yX2_keeper : MethodName := ⟨RX2, "keeper", "(IZ)I"⟩
abbrev cX2_home : ByteArray := prog_4_method_6_code
def yX2_home : MethodName := ⟨RX2, "home", "(I)I"⟩
abbrev cX2_set : ByteArray := prog_4_method_7_code
def yX2_set : MethodName := ⟨RX2, "set", "(II)I"⟩
abbrev cX2_weightOf : ByteArray := prog_4_method_8_code
def yX2_weightOf : MethodName := ⟨RX2, "weightOf", "(IIZ)I"⟩
abbrev cX2_decides : ByteArray := prog_4_method_9_code
def yX2_decides : MethodName := ⟨RX2, "decides", "(IZ)V"⟩
abbrev cX2_isKnown : ByteArray := prog_4_method_10_code
def yX2_isKnown : MethodName := ⟨RX2, "isKnown", "(I)Z"⟩
abbrev cX2_keptAt : ByteArray := prog_4_method_11_code
def yX2_keptAt : MethodName := ⟨RX2, "keptAt", "(I)I"⟩
abbrev cX2_waitingMany : ByteArray := prog_4_method_12_code
def yX2_waitingMany : MethodName := ⟨RX2, "waitingMany", "()I"⟩
abbrev cX2_joins : ByteArray := prog_4_method_13_code
def yX2_joins : MethodName := ⟨RX2, "joins", "(IIZI)I"⟩
abbrev cX2_comes : ByteArray := prog_4_method_14_code
def yX2_comes : MethodName := ⟨RX2, "comes", "(IIZII)I"⟩
abbrev cX2_piece : ByteArray := prog_4_method_15_code
def yX2_piece : MethodName := ⟨RX2, "piece", "(IIZII)I"⟩
abbrev cX2_tick : ByteArray := prog_4_method_16_code
def yX2_tick : MethodName := ⟨RX2, "tick", "(I)I"⟩
abbrev cX2_waits : ByteArray := prog_4_method_17_code
def yX2_waits : MethodName := ⟨RX2, "waits", "(II)I"⟩
abbrev cX2_remembered : ByteArray := prog_4_method_18_code
def yX2_remembered : MethodName := ⟨RX2, "remembered", "(I)I"⟩
abbrev cX2_kept : ByteArray := prog_4_method_19_code
def yX2_kept : MethodName := ⟨RX2, "kept", "(II)I"⟩
abbrev cX2_take : ByteArray := prog_4_method_20_code
def yX2_take : MethodName := ⟨RX2, "take", "(I)I"⟩
abbrev cX2_shape : ByteArray := prog_4_method_21_code
def yX2_shape : MethodName := ⟨RX2, "shape", "(II)I"⟩
abbrev cX2_step : ByteArray := prog_4_method_22_code
def yX2_step : MethodName := ⟨RX2, "step", "(I)I"⟩
abbrev cX2_bound : ByteArray := prog_4_method_23_code
def yX2_bound : MethodName := ⟨RX2, "bound", "(III)I"⟩
abbrev cX2_count : ByteArray := prog_4_method_24_code
def yX2_count : MethodName := ⟨RX2, "count", "(I)I"⟩
abbrev cX2_trace : ByteArray := prog_4_method_25_code
def yX2_trace : MethodName := ⟨RX2, "trace", "()J"⟩
def RJx8e188 : String := "java/lang/Cloneable"
def TJx8e188 : u_T := fun k => match k with
  | _ => ("", "", "", false)
def tyJx8e188 : Nat → FieldType := fun k => match k with
  | _ => .int
abbrev wsJx8e1880 : List Cond := u_ws RJx8e188 TJx8e188 0
theorem nmJx8e188 : ∀ a, a < 0 → ∀ b, b < 0 → a ≠ b → (TJx8e188 a).2.1 ≠ (TJx8e188 b).2.1 := by decide +kernel
theorem tyJx8e188_ok : ∀ k, k < 0 → parseFieldDescriptor (TJx8e188 k).2.2.1 = some (tyJx8e188 k) := by decide +kernel
def RL : String := "CallKeepersLaw"
abbrev cL_law : ByteArray := code
def yL_law : MethodName := ⟨RL, "law", "([I)Z"⟩
def wsL_law_r1 : List Cond := [Cond.classLink RL 7 RX1, Cond.instantiable RX1 9, Cond.initialized RX1, Cond.classLink RL 10 RX2, Cond.instantiable RX2 18, Cond.initialized RX2, Cond.methodLink RL 9 yX1_init, Cond.instanceMethod yX1_init, Cond.code yX1_init cX1_init 2 none, Cond.methodLink RX1 1 objectInit, Cond.instanceMethod objectInit, Cond.code objectInit ⟨#[0xb1]⟩ 1 none, Cond.arrayClass .boolean, Cond.fieldLink RX1 9 "CallKeepers" "isUp" "[Z", Cond.fieldLink RX1 13 "CallKeepers" "FIRST_SETTINGS" "[I", Cond.methodLink RX1 17 ⟨"[I", "clone", "()Ljava/lang/Object;"⟩, Cond.sameMethod "[I" "java/lang/Object" "clone" "()Ljava/lang/Object;", Cond.native ⟨"java/lang/Object", "clone", "()Ljava/lang/Object;"⟩, Cond.instanceMethod ⟨"java/lang/Object", "clone", "()Ljava/lang/Object;"⟩, Cond.selects "[I" ⟨"[I", "clone", "()Ljava/lang/Object;"⟩ ⟨"java/lang/Object", "clone", "()Ljava/lang/Object;"⟩, Cond.classLink RX1 18 "[I", Cond.fieldLink RX1 22 "CallKeepers" "settings" "[I", Cond.arrayClass .int, Cond.fieldLink RX1 25 "CallKeepers" "counts" "[I"]
def wsL_law_r2 : List Cond := [Cond.classLink RX1 28 "[[I", Cond.fieldLink RX1 30 "CallKeepers" "tallies" "[[I", Cond.fieldLink RX1 33 "CallKeepers" "steps" "[I", Cond.classLink RX1 36 RX0, Cond.fieldLink RX1 38 "CallKeepers" "waiting" "[LCallKeepers$Call;", Cond.fieldLink RX1 42 "CallKeepers" "decided" "[LCallKeepers$Call;", Cond.fieldLink RX1 45 "CallKeepers" "row" "[LCallKeepers$Call;", Cond.fieldLink RX1 48 "CallKeepers" "marks" "J", Cond.methodLink RL 12 yX2_init, Cond.instanceMethod yX2_init, Cond.code yX2_init cX2_init 2 none, Cond.methodLink RX2 1 objectInit, Cond.fieldLink RX2 7 "CallKeepersModel" "isDown" "[Z", Cond.fieldLink RX2 13 "CallKeepersModel" "rules" "[I", Cond.fieldLink RX2 17 "CallKeepersModel" "keeperOf" "[I", Cond.fieldLink RX2 20 "CallKeepersModel" "pieces" "[I", Cond.fieldLink RX2 23 "CallKeepersModel" "shapeOf" "[I", Cond.fieldLink RX2 26 "CallKeepersModel" "length" "[I", Cond.fieldLink RX2 29 "CallKeepersModel" "last" "[I", Cond.fieldLink RX2 32 "CallKeepersModel" "came" "[I", Cond.fieldLink RX2 35 "CallKeepersModel" "decision" "[I", Cond.fieldLink RX2 38 "CallKeepersModel" "decidedAt" "[I", Cond.fieldLink RX2 41 "CallKeepersModel" "kept" "[I", Cond.fieldLink RX2 44 "CallKeepersModel" "sums" "[I"]
def wsL_law_r3 : List Cond := [Cond.fieldLink RX2 47 "CallKeepersModel" "steps" "[I", Cond.fieldLink RX2 50 "CallKeepersModel" "counts" "[I", Cond.methodLink RL 13 yX1_keeper, Cond.instanceMethod yX1_keeper, Cond.selects RX1 yX1_keeper yX1_keeper, Cond.code yX1_keeper cX1_keeper 3 (some .int), Cond.methodLink RX1 52 yX1_isBelow, Cond.static yX1_isBelow, Cond.code yX1_isBelow cX1_isBelow 2 (some .boolean), Cond.methodLink RX1 56 yX1_loseCallsAt, Cond.instanceMethod yX1_loseCallsAt, Cond.selects RX1 yX1_loseCallsAt yX1_loseCallsAt, Cond.code yX1_loseCallsAt cX1_loseCallsAt 4 none, Cond.fieldLink RX1 105 "CallKeepers$Call" "keeper" "I", Cond.methodLink RX1 152 yX1_stopWaiting, Cond.instanceMethod yX1_stopWaiting, Cond.selects RX1 yX1_stopWaiting yX1_stopWaiting, Cond.code yX1_stopWaiting cX1_stopWaiting 2 none, Cond.fieldLink RX1 131 "CallKeepers$Call" "number" "I", Cond.methodLink RX1 60 yX1_moveCallsHome, Cond.instanceMethod yX1_moveCallsHome, Cond.selects RX1 yX1_moveCallsHome yX1_moveCallsHome, Cond.code yX1_moveCallsHome cX1_moveCallsHome 4 none, Cond.methodLink RX1 63 yX1_homeOf]
def wsL_law_r4 : List Cond := [Cond.instanceMethod yX1_homeOf, Cond.selects RX1 yX1_homeOf yX1_homeOf, Cond.code yX1_homeOf cX1_homeOf 6 (some .int), Cond.methodLink RL 17 yX2_keeper, Cond.instanceMethod yX2_keeper, Cond.selects RX2 yX2_keeper yX2_keeper, Cond.code yX2_keeper cX2_keeper 4 (some .int), Cond.fieldLink RX2 53 "CallKeepersModel" "thrown" "I", Cond.methodLink RX2 57 yX2_in, Cond.static yX2_in, Cond.code yX2_in cX2_in 3 (some .boolean), Cond.methodLink RX2 61 yX2_homeOf, Cond.instanceMethod yX2_homeOf, Cond.selects RX2 yX2_homeOf yX2_homeOf, Cond.code yX2_homeOf cX2_homeOf 6 (some .int), Cond.methodLink RL 18 yX1_home, Cond.instanceMethod yX1_home, Cond.selects RX1 yX1_home yX1_home, Cond.code yX1_home cX1_home 2 (some .int), Cond.methodLink RL 22 yX2_home, Cond.instanceMethod yX2_home, Cond.selects RX2 yX2_home yX2_home, Cond.code yX2_home cX2_home 2 (some .int), Cond.methodLink RL 23 yX1_set]
def wsL_law_r5 : List Cond := [Cond.instanceMethod yX1_set, Cond.selects RX1 yX1_set yX1_set, Cond.code yX1_set cX1_set 4 (some .int), Cond.fieldLink RX1 67 "CallKeepers" "LEAST_SETTINGS" "[I", Cond.fieldLink RX1 70 "CallKeepers" "GREATEST_SETTINGS" "[I", Cond.methodLink RX1 73 yX1_isWithin, Cond.static yX1_isWithin, Cond.code yX1_isWithin cX1_isWithin 3 (some .boolean), Cond.methodLink RX1 77 yX1_leaveFair, Cond.instanceMethod yX1_leaveFair, Cond.selects RX1 yX1_leaveFair yX1_leaveFair, Cond.code yX1_leaveFair cX1_leaveFair 2 none, Cond.methodLink RL 27 yX2_set, Cond.instanceMethod yX2_set, Cond.selects RX2 yX2_set yX2_set, Cond.code yX2_set cX2_set 6 (some .int), Cond.methodLink RL 28 yX1_piece, Cond.instanceMethod yX1_piece, Cond.selects RX1 yX1_piece yX1_piece, Cond.code yX1_piece cX1_piece 10 (some .int), Cond.instantiable RX0 12, Cond.initialized RX0, Cond.methodLink RX1 80 yX1_counted, Cond.instanceMethod yX1_counted]
def wsL_law_r6 : List Cond := [Cond.selects RX1 yX1_counted yX1_counted, Cond.code yX1_counted cX1_counted 3 (some .int), Cond.methodLink RX1 84 yX1_hearWaiting, Cond.instanceMethod yX1_hearWaiting, Cond.selects RX1 yX1_hearWaiting yX1_hearWaiting, Cond.code yX1_hearWaiting cX1_hearWaiting 5 (some .int), Cond.methodLink RX1 156 yX0_has, Cond.instanceMethod yX0_has, Cond.selects RX0 yX0_has yX0_has, Cond.code yX0_has cX0_has 2 (some .boolean), Cond.fieldLink RX0 9 "CallKeepers$Call" "pieces" "I", Cond.methodLink RX1 160 yX0_contradicts, Cond.instanceMethod yX0_contradicts, Cond.selects RX0 yX0_contradicts yX0_contradicts, Cond.code yX0_contradicts cX0_contradicts 6 (some .boolean), Cond.fieldLink RX0 18 "CallKeepers$Call" "last" "I", Cond.methodLink RX1 99 yX1_takeIn, Cond.instanceMethod yX1_takeIn, Cond.selects RX1 yX1_takeIn yX1_takeIn, Cond.code yX1_takeIn cX1_takeIn 5 (some .int), Cond.fieldLink RX1 118 "CallKeepers$Call" "last" "I", Cond.methodLink RX1 164 yX0_add, Cond.instanceMethod yX0_add, Cond.selects RX0 yX0_add yX0_add]
def wsL_law_r7 : List Cond := [Cond.code yX0_add cX0_add 3 none, Cond.fieldLink RX0 15 "CallKeepers$Call" "length" "I", Cond.methodLink RX1 168 yX0_isWhole, Cond.instanceMethod yX0_isWhole, Cond.selects RX0 yX0_isWhole yX0_isWhole, Cond.code yX0_isWhole cX0_isWhole 2 (some .boolean), Cond.methodLink RX1 172 yX1_decide, Cond.instanceMethod yX1_decide, Cond.selects RX1 yX1_decide yX1_decide, Cond.code yX1_decide cX1_decide 3 none, Cond.fieldLink RX1 137 "CallKeepers$Call" "isTorn" "Z", Cond.fieldLink RX1 140 "CallKeepers$Call" "decidedAt" "I", Cond.fieldLink RX1 134 "CallKeepers$Call" "weight" "I", Cond.fieldLink RX1 112 "CallKeepers$Call" "shape" "I", Cond.fieldLink RX1 115 "CallKeepers$Call" "length" "I", Cond.methodLink RX1 176 yX1_weighTorn, Cond.instanceMethod yX1_weighTorn, Cond.selects RX1 yX1_weighTorn yX1_weighTorn, Cond.code yX1_weighTorn cX1_weighTorn 2 (some .int), Cond.constantLong RX1 189 (1000), Cond.methodLink RX1 180 yX1_weighRare, Cond.instanceMethod yX1_weighRare, Cond.selects RX1 yX1_weighRare yX1_weighRare, Cond.code yX1_weighRare cX1_weighRare 2 (some .int)]
def wsL_law_r8 : List Cond := [Cond.constantLong RX1 191 (100), Cond.methodLink RX1 193 yX1_weighLong, Cond.instanceMethod yX1_weighLong, Cond.selects RX1 yX1_weighLong yX1_weighLong, Cond.code yX1_weighLong cX1_weighLong 2 (some .int), Cond.constantLong RX1 196 (10), Cond.methodLink RX1 198 yX1_weighFair, Cond.instanceMethod yX1_weighFair, Cond.selects RX1 yX1_weighFair yX1_weighFair, Cond.code yX1_weighFair cX1_weighFair 3 (some .int), Cond.methodLink RX1 183 yX1_stepOf, Cond.static yX1_stepOf, Cond.code yX1_stepOf cX1_stepOf 2 (some .int), Cond.methodLink RX1 186 yX1_keepOrLetFall, Cond.instanceMethod yX1_keepOrLetFall, Cond.selects RX1 yX1_keepOrLetFall yX1_keepOrLetFall, Cond.code yX1_keepOrLetFall cX1_keepOrLetFall 3 none, Cond.fieldLink RX1 124 "CallKeepers$Call" "isKept" "Z", Cond.methodLink RX1 88 yX1_recall, Cond.instanceMethod yX1_recall, Cond.selects RX1 yX1_recall yX1_recall, Cond.code yX1_recall cX1_recall 3 (some (.object "CallKeepers$Call")), Cond.fieldLink RX1 146 "CallKeepers$Call" "isTaken" "Z", Cond.methodLink RX1 92 yX1_hearDecided]
def wsL_law_r9 : List Cond := [Cond.instanceMethod yX1_hearDecided, Cond.selects RX1 yX1_hearDecided yX1_hearDecided, Cond.code yX1_hearDecided cX1_hearDecided 5 (some .int), Cond.methodLink RX1 96 yX0_init, Cond.instanceMethod yX0_init, Cond.code yX0_init cX0_init 5 none, Cond.methodLink RX0 3 objectInit, Cond.fieldLink RX0 21 "CallKeepers$Call" "decidedAt" "I", Cond.fieldLink RX0 24 "CallKeepers$Call" "weight" "I", Cond.fieldLink RX0 27 "CallKeepers$Call" "isTorn" "Z", Cond.fieldLink RX0 31 "CallKeepers$Call" "isKept" "Z", Cond.fieldLink RX0 34 "CallKeepers$Call" "isTaken" "Z", Cond.fieldLink RX0 37 "CallKeepers$Call" "number" "I", Cond.fieldLink RX0 40 "CallKeepers$Call" "shape" "I", Cond.fieldLink RX0 43 "CallKeepers$Call" "keeper" "I", Cond.fieldLink RX0 46 "CallKeepers$Call" "since" "I", Cond.methodLink RL 32 yX2_piece, Cond.instanceMethod yX2_piece, Cond.selects RX2 yX2_piece yX2_piece, Cond.code yX2_piece cX2_piece 7 (some .int), Cond.methodLink RX2 104 yX2_comes, Cond.instanceMethod yX2_comes, Cond.selects RX2 yX2_comes yX2_comes, Cond.code yX2_comes cX2_comes 7 (some .int)]
def wsL_law_r10 : List Cond := [Cond.fieldLink RX2 79 "CallKeepersModel" "now" "I", Cond.methodLink RX2 89 yX2_joins, Cond.instanceMethod yX2_joins, Cond.selects RX2 yX2_joins yX2_joins, Cond.code yX2_joins cX2_joins 5 (some .int), Cond.methodLink RX2 85 yX2_decides, Cond.instanceMethod yX2_decides, Cond.selects RX2 yX2_decides yX2_decides, Cond.code yX2_decides cX2_decides 8 none, Cond.fieldLink RX2 82 "CallKeepersModel" "keptMany" "I", Cond.methodLink RX2 75 yX2_weightOf, Cond.instanceMethod yX2_weightOf, Cond.selects RX2 yX2_weightOf yX2_weightOf, Cond.code yX2_weightOf cX2_weightOf 4 (some .int), Cond.fieldLink RX2 65 "CallKeepersModel" "trace" "J", Cond.constantLong RX2 69 (1000), Cond.constantLong RX2 71 (100), Cond.constantLong RX2 73 (10), Cond.methodLink RX2 93 yX2_isKnown, Cond.instanceMethod yX2_isKnown, Cond.selects RX2 yX2_isKnown yX2_isKnown, Cond.code yX2_isKnown cX2_isKnown 2 (some .boolean), Cond.methodLink RX2 97 yX2_keptAt, Cond.instanceMethod yX2_keptAt]
def wsL_law_r11 : List Cond := [Cond.selects RX2 yX2_keptAt yX2_keptAt, Cond.code yX2_keptAt cX2_keptAt 3 (some .int), Cond.methodLink RX2 100 yX2_waitingMany, Cond.instanceMethod yX2_waitingMany, Cond.selects RX2 yX2_waitingMany yX2_waitingMany, Cond.code yX2_waitingMany cX2_waitingMany 3 (some .int), Cond.methodLink RL 33 yX1_tick, Cond.instanceMethod yX1_tick, Cond.selects RX1 yX1_tick yX1_tick, Cond.code yX1_tick cX1_tick 4 (some .int), Cond.methodLink RX1 102 yX1_passOneTick, Cond.instanceMethod yX1_passOneTick, Cond.selects RX1 yX1_passOneTick yX1_passOneTick, Cond.code yX1_passOneTick cX1_passOneTick 3 none, Cond.fieldLink RX1 121 "CallKeepers$Call" "since" "I", Cond.methodLink RL 36 yX2_tick, Cond.instanceMethod yX2_tick, Cond.selects RX2 yX2_tick yX2_tick, Cond.code yX2_tick cX2_tick 5 (some .int), Cond.methodLink RL 37 yX1_waits, Cond.instanceMethod yX1_waits, Cond.selects RX1 yX1_waits yX1_waits, Cond.code yX1_waits cX1_waits 4 (some .int), Cond.fieldLink RX1 109 "CallKeepers$Call" "pieces" "I"]
def wsL_law_r12 : List Cond := [Cond.methodLink RL 40 yX2_waits, Cond.instanceMethod yX2_waits, Cond.selects RX2 yX2_waits yX2_waits, Cond.code yX2_waits cX2_waits 3 (some .int), Cond.methodLink RL 41 yX1_remembered, Cond.instanceMethod yX1_remembered, Cond.selects RX1 yX1_remembered yX1_remembered, Cond.code yX1_remembered cX1_remembered 3 (some .int), Cond.methodLink RL 44 yX2_remembered, Cond.instanceMethod yX2_remembered, Cond.selects RX2 yX2_remembered yX2_remembered, Cond.code yX2_remembered cX2_remembered 2 (some .int), Cond.methodLink RL 45 yX1_kept, Cond.instanceMethod yX1_kept, Cond.selects RX1 yX1_kept yX1_kept, Cond.code yX1_kept cX1_kept 4 (some .int), Cond.methodLink RX1 128 yX1_keptAt, Cond.instanceMethod yX1_keptAt, Cond.selects RX1 yX1_keptAt yX1_keptAt, Cond.code yX1_keptAt cX1_keptAt 2 (some (.object "CallKeepers$Call")), Cond.methodLink RL 48 yX2_kept, Cond.instanceMethod yX2_kept, Cond.selects RX2 yX2_kept yX2_kept, Cond.code yX2_kept cX2_kept 3 (some .int)]
def wsL_law_r13 : List Cond := [Cond.methodLink RL 49 yX1_take, Cond.instanceMethod yX1_take, Cond.selects RX1 yX1_take yX1_take, Cond.code yX1_take cX1_take 3 (some .int), Cond.methodLink RX1 143 yX1_closeRowAt, Cond.instanceMethod yX1_closeRowAt, Cond.selects RX1 yX1_closeRowAt yX1_closeRowAt, Cond.code yX1_closeRowAt cX1_closeRowAt 3 none, Cond.methodLink RL 52 yX2_take, Cond.instanceMethod yX2_take, Cond.selects RX2 yX2_take yX2_take, Cond.code yX2_take cX2_take 6 (some .int), Cond.methodLink RL 53 yX1_shape, Cond.instanceMethod yX1_shape, Cond.selects RX1 yX1_shape yX1_shape, Cond.code yX1_shape cX1_shape 3 (some .int), Cond.methodLink RL 56 yX2_shape, Cond.instanceMethod yX2_shape, Cond.selects RX2 yX2_shape yX2_shape, Cond.code yX2_shape cX2_shape 3 (some .int), Cond.methodLink RL 57 yX1_step, Cond.instanceMethod yX1_step, Cond.selects RX1 yX1_step yX1_step, Cond.code yX1_step cX1_step 2 (some .int)]
def wsL_law_r14 : List Cond := [Cond.methodLink RL 60 yX2_step, Cond.instanceMethod yX2_step, Cond.selects RX2 yX2_step yX2_step, Cond.code yX2_step cX2_step 2 (some .int), Cond.methodLink RL 61 yX1_bound, Cond.instanceMethod yX1_bound, Cond.selects RX1 yX1_bound yX1_bound, Cond.code yX1_bound cX1_bound 5 (some .int), Cond.methodLink RX1 149 yX1_stepOfShare, Cond.instanceMethod yX1_stepOfShare, Cond.selects RX1 yX1_stepOfShare yX1_stepOfShare, Cond.code yX1_stepOfShare cX1_stepOfShare 8 (some .int), Cond.methodLink RL 65 yX2_bound, Cond.instanceMethod yX2_bound, Cond.selects RX2 yX2_bound yX2_bound, Cond.code yX2_bound cX2_bound 7 (some .int), Cond.methodLink RL 66 yX1_count, Cond.instanceMethod yX1_count, Cond.selects RX1 yX1_count yX1_count, Cond.code yX1_count cX1_count 2 (some .int), Cond.methodLink RL 69 yX2_count, Cond.instanceMethod yX2_count, Cond.selects RX2 yX2_count yX2_count, Cond.code yX2_count cX2_count 4 (some .int)]
def wsL_law_r15 : List Cond := [Cond.methodLink RL 70 yX1_trace, Cond.instanceMethod yX1_trace, Cond.selects RX1 yX1_trace yX1_trace, Cond.code yX1_trace cX1_trace 1 (some .long), Cond.methodLink RL 74 yX2_trace, Cond.instanceMethod yX2_trace, Cond.selects RX2 yX2_trace yX2_trace, Cond.code yX2_trace cX2_trace 1 (some .long)]
def wsL_law : List Cond := (wsL_law_r1 ++ (wsL_law_r2 ++ (wsL_law_r3 ++ (wsL_law_r4 ++ (wsL_law_r5 ++ (wsL_law_r6 ++ (wsL_law_r7 ++ (wsL_law_r8 ++ (wsL_law_r9 ++ (wsL_law_r10 ++ (wsL_law_r11 ++ (wsL_law_r12 ++ (wsL_law_r13 ++ (wsL_law_r14 ++ wsL_law_r15)))))))))))))) ++ wsX10 ++ wsX20 ++ wsX00 ++ ([] : List Cond)
set_option maxRecDepth 100000 in
theorem wsL_in1 : ∀ w ∈ wsL_law_r1, w ∈ lw_tbl := List.forall_mem_cons.mpr ⟨List.mem_of_getElem? (i := 32) rfl, List.forall_mem_cons.mpr ⟨List.mem_of_getElem? (i := 33) rfl, List.forall_mem_cons.mpr ⟨List.mem_of_getElem? (i := 29) rfl, List.forall_mem_cons.mpr ⟨List.mem_of_getElem? (i := 305) rfl, List.forall_mem_cons.mpr ⟨List.mem_of_getElem? (i := 306) rfl, List.forall_mem_cons.mpr ⟨List.mem_of_getElem? (i := 30) rfl, List.forall_mem_cons.mpr ⟨List.mem_of_getElem? (i := 34) rfl, List.forall_mem_cons.mpr ⟨List.mem_of_getElem? (i := 35) rfl, List.forall_mem_cons.mpr ⟨List.mem_of_getElem? (i := 36) rfl, List.forall_mem_cons.mpr ⟨List.mem_of_getElem? (i := 37) rfl, List.forall_mem_cons.mpr ⟨List.mem_of_getElem? (i := 38) rfl, List.forall_mem_cons.mpr ⟨List.mem_of_getElem? (i := 39) rfl, List.forall_mem_cons.mpr ⟨List.mem_of_getElem? (i := 81) rfl, List.forall_mem_cons.mpr ⟨List.mem_of_getElem? (i := 53) rfl, List.forall_mem_cons.mpr ⟨List.mem_of_getElem? (i := 40) rfl, List.forall_mem_cons.mpr ⟨List.mem_of_getElem? (i := 42) rfl, List.forall_mem_cons.mpr ⟨List.mem_of_getElem? (i := 43) rfl, List.forall_mem_cons.mpr ⟨List.mem_of_getElem? (i := 44) rfl, List.forall_mem_cons.mpr ⟨List.mem_of_getElem? (i := 45) rfl, List.forall_mem_cons.mpr ⟨List.mem_of_getElem? (i := 46) rfl, List.forall_mem_cons.mpr ⟨List.mem_of_getElem? (i := 48) rfl, List.forall_mem_cons.mpr ⟨List.mem_of_getElem? (i := 54) rfl, List.forall_mem_cons.mpr ⟨List.mem_of_getElem? (i := 82) rfl, List.forall_mem_cons.mpr ⟨List.mem_of_getElem? (i := 55) rfl, fun _ h => absurd h List.not_mem_nil⟩⟩⟩⟩⟩⟩⟩⟩⟩⟩⟩⟩⟩⟩⟩⟩⟩⟩⟩⟩⟩⟩⟩⟩
set_option maxRecDepth 100000 in
theorem wsL_in2 : ∀ w ∈ wsL_law_r2, w ∈ lw_tbl := List.forall_mem_cons.mpr ⟨List.mem_of_getElem? (i := 49) rfl, List.forall_mem_cons.mpr ⟨List.mem_of_getElem? (i := 56) rfl, List.forall_mem_cons.mpr ⟨List.mem_of_getElem? (i := 57) rfl, List.forall_mem_cons.mpr ⟨List.mem_of_getElem? (i := 51) rfl, List.forall_mem_cons.mpr ⟨List.mem_of_getElem? (i := 58) rfl, List.forall_mem_cons.mpr ⟨List.mem_of_getElem? (i := 59) rfl, List.forall_mem_cons.mpr ⟨List.mem_of_getElem? (i := 60) rfl, List.forall_mem_cons.mpr ⟨List.mem_of_getElem? (i := 61) rfl, List.forall_mem_cons.mpr ⟨List.mem_of_getElem? (i := 307) rfl, List.forall_mem_cons.mpr ⟨List.mem_of_getElem? (i := 308) rfl, List.forall_mem_cons.mpr ⟨List.mem_of_getElem? (i := 309) rfl, List.forall_mem_cons.mpr ⟨List.mem_of_getElem? (i := 310) rfl, List.forall_mem_cons.mpr ⟨List.mem_of_getElem? (i := 314) rfl, List.forall_mem_cons.mpr ⟨List.mem_of_getElem? (i := 315) rfl, List.forall_mem_cons.mpr ⟨List.mem_of_getElem? (i := 316) rfl, List.forall_mem_cons.mpr ⟨List.mem_of_getElem? (i := 317) rfl, List.forall_mem_cons.mpr ⟨List.mem_of_getElem? (i := 318) rfl, List.forall_mem_cons.mpr ⟨List.mem_of_getElem? (i := 319) rfl, List.forall_mem_cons.mpr ⟨List.mem_of_getElem? (i := 320) rfl, List.forall_mem_cons.mpr ⟨List.mem_of_getElem? (i := 321) rfl, List.forall_mem_cons.mpr ⟨List.mem_of_getElem? (i := 322) rfl, List.forall_mem_cons.mpr ⟨List.mem_of_getElem? (i := 323) rfl, List.forall_mem_cons.mpr ⟨List.mem_of_getElem? (i := 324) rfl, List.forall_mem_cons.mpr ⟨List.mem_of_getElem? (i := 326) rfl, fun _ h => absurd h List.not_mem_nil⟩⟩⟩⟩⟩⟩⟩⟩⟩⟩⟩⟩⟩⟩⟩⟩⟩⟩⟩⟩⟩⟩⟩⟩
set_option maxRecDepth 100000 in
theorem wsL_in3 : ∀ w ∈ wsL_law_r3, w ∈ lw_tbl := List.forall_mem_cons.mpr ⟨List.mem_of_getElem? (i := 327) rfl, List.forall_mem_cons.mpr ⟨List.mem_of_getElem? (i := 328) rfl, List.forall_mem_cons.mpr ⟨List.mem_of_getElem? (i := 83) rfl, List.forall_mem_cons.mpr ⟨List.mem_of_getElem? (i := 84) rfl, List.forall_mem_cons.mpr ⟨List.mem_of_getElem? (i := 85) rfl, List.forall_mem_cons.mpr ⟨List.mem_of_getElem? (i := 86) rfl, List.forall_mem_cons.mpr ⟨List.mem_of_getElem? (i := 87) rfl, List.forall_mem_cons.mpr ⟨List.mem_of_getElem? (i := 88) rfl, List.forall_mem_cons.mpr ⟨List.mem_of_getElem? (i := 89) rfl, List.forall_mem_cons.mpr ⟨List.mem_of_getElem? (i := 90) rfl, List.forall_mem_cons.mpr ⟨List.mem_of_getElem? (i := 92) rfl, List.forall_mem_cons.mpr ⟨List.mem_of_getElem? (i := 0) rfl, List.forall_mem_cons.mpr ⟨List.mem_of_getElem? (i := 93) rfl, List.forall_mem_cons.mpr ⟨List.mem_of_getElem? (i := 207) rfl, List.forall_mem_cons.mpr ⟨List.mem_of_getElem? (i := 94) rfl, List.forall_mem_cons.mpr ⟨List.mem_of_getElem? (i := 96) rfl, List.forall_mem_cons.mpr ⟨List.mem_of_getElem? (i := 1) rfl, List.forall_mem_cons.mpr ⟨List.mem_of_getElem? (i := 97) rfl, List.forall_mem_cons.mpr ⟨List.mem_of_getElem? (i := 201) rfl, List.forall_mem_cons.mpr ⟨List.mem_of_getElem? (i := 98) rfl, List.forall_mem_cons.mpr ⟨List.mem_of_getElem? (i := 100) rfl, List.forall_mem_cons.mpr ⟨List.mem_of_getElem? (i := 2) rfl, List.forall_mem_cons.mpr ⟨List.mem_of_getElem? (i := 101) rfl, List.forall_mem_cons.mpr ⟨List.mem_of_getElem? (i := 102) rfl, fun _ h => absurd h List.not_mem_nil⟩⟩⟩⟩⟩⟩⟩⟩⟩⟩⟩⟩⟩⟩⟩⟩⟩⟩⟩⟩⟩⟩⟩⟩
set_option maxRecDepth 100000 in
theorem wsL_in4 : ∀ w ∈ wsL_law_r4, w ∈ lw_tbl := List.forall_mem_cons.mpr ⟨List.mem_of_getElem? (i := 104) rfl, List.forall_mem_cons.mpr ⟨List.mem_of_getElem? (i := 3) rfl, List.forall_mem_cons.mpr ⟨List.mem_of_getElem? (i := 105) rfl, List.forall_mem_cons.mpr ⟨List.mem_of_getElem? (i := 366) rfl, List.forall_mem_cons.mpr ⟨List.mem_of_getElem? (i := 367) rfl, List.forall_mem_cons.mpr ⟨List.mem_of_getElem? (i := 368) rfl, List.forall_mem_cons.mpr ⟨List.mem_of_getElem? (i := 369) rfl, List.forall_mem_cons.mpr ⟨List.mem_of_getElem? (i := 311) rfl, List.forall_mem_cons.mpr ⟨List.mem_of_getElem? (i := 370) rfl, List.forall_mem_cons.mpr ⟨List.mem_of_getElem? (i := 371) rfl, List.forall_mem_cons.mpr ⟨List.mem_of_getElem? (i := 372) rfl, List.forall_mem_cons.mpr ⟨List.mem_of_getElem? (i := 373) rfl, List.forall_mem_cons.mpr ⟨List.mem_of_getElem? (i := 375) rfl, List.forall_mem_cons.mpr ⟨List.mem_of_getElem? (i := 20) rfl, List.forall_mem_cons.mpr ⟨List.mem_of_getElem? (i := 376) rfl, List.forall_mem_cons.mpr ⟨List.mem_of_getElem? (i := 106) rfl, List.forall_mem_cons.mpr ⟨List.mem_of_getElem? (i := 107) rfl, List.forall_mem_cons.mpr ⟨List.mem_of_getElem? (i := 108) rfl, List.forall_mem_cons.mpr ⟨List.mem_of_getElem? (i := 109) rfl, List.forall_mem_cons.mpr ⟨List.mem_of_getElem? (i := 377) rfl, List.forall_mem_cons.mpr ⟨List.mem_of_getElem? (i := 378) rfl, List.forall_mem_cons.mpr ⟨List.mem_of_getElem? (i := 379) rfl, List.forall_mem_cons.mpr ⟨List.mem_of_getElem? (i := 380) rfl, List.forall_mem_cons.mpr ⟨List.mem_of_getElem? (i := 110) rfl, fun _ h => absurd h List.not_mem_nil⟩⟩⟩⟩⟩⟩⟩⟩⟩⟩⟩⟩⟩⟩⟩⟩⟩⟩⟩⟩⟩⟩⟩⟩
set_option maxRecDepth 100000 in
theorem wsL_in5 : ∀ w ∈ wsL_law_r5, w ∈ lw_tbl := List.forall_mem_cons.mpr ⟨List.mem_of_getElem? (i := 111) rfl, List.forall_mem_cons.mpr ⟨List.mem_of_getElem? (i := 112) rfl, List.forall_mem_cons.mpr ⟨List.mem_of_getElem? (i := 113) rfl, List.forall_mem_cons.mpr ⟨List.mem_of_getElem? (i := 114) rfl, List.forall_mem_cons.mpr ⟨List.mem_of_getElem? (i := 116) rfl, List.forall_mem_cons.mpr ⟨List.mem_of_getElem? (i := 118) rfl, List.forall_mem_cons.mpr ⟨List.mem_of_getElem? (i := 119) rfl, List.forall_mem_cons.mpr ⟨List.mem_of_getElem? (i := 120) rfl, List.forall_mem_cons.mpr ⟨List.mem_of_getElem? (i := 121) rfl, List.forall_mem_cons.mpr ⟨List.mem_of_getElem? (i := 123) rfl, List.forall_mem_cons.mpr ⟨List.mem_of_getElem? (i := 4) rfl, List.forall_mem_cons.mpr ⟨List.mem_of_getElem? (i := 124) rfl, List.forall_mem_cons.mpr ⟨List.mem_of_getElem? (i := 381) rfl, List.forall_mem_cons.mpr ⟨List.mem_of_getElem? (i := 382) rfl, List.forall_mem_cons.mpr ⟨List.mem_of_getElem? (i := 383) rfl, List.forall_mem_cons.mpr ⟨List.mem_of_getElem? (i := 384) rfl, List.forall_mem_cons.mpr ⟨List.mem_of_getElem? (i := 125) rfl, List.forall_mem_cons.mpr ⟨List.mem_of_getElem? (i := 126) rfl, List.forall_mem_cons.mpr ⟨List.mem_of_getElem? (i := 127) rfl, List.forall_mem_cons.mpr ⟨List.mem_of_getElem? (i := 128) rfl, List.forall_mem_cons.mpr ⟨List.mem_of_getElem? (i := 195) rfl, List.forall_mem_cons.mpr ⟨List.mem_of_getElem? (i := 31) rfl, List.forall_mem_cons.mpr ⟨List.mem_of_getElem? (i := 129) rfl, List.forall_mem_cons.mpr ⟨List.mem_of_getElem? (i := 131) rfl, fun _ h => absurd h List.not_mem_nil⟩⟩⟩⟩⟩⟩⟩⟩⟩⟩⟩⟩⟩⟩⟩⟩⟩⟩⟩⟩⟩⟩⟩⟩
set_option maxRecDepth 100000 in
theorem wsL_in6 : ∀ w ∈ wsL_law_r6, w ∈ lw_tbl := List.forall_mem_cons.mpr ⟨List.mem_of_getElem? (i := 5) rfl, List.forall_mem_cons.mpr ⟨List.mem_of_getElem? (i := 132) rfl, List.forall_mem_cons.mpr ⟨List.mem_of_getElem? (i := 133) rfl, List.forall_mem_cons.mpr ⟨List.mem_of_getElem? (i := 135) rfl, List.forall_mem_cons.mpr ⟨List.mem_of_getElem? (i := 6) rfl, List.forall_mem_cons.mpr ⟨List.mem_of_getElem? (i := 136) rfl, List.forall_mem_cons.mpr ⟨List.mem_of_getElem? (i := 137) rfl, List.forall_mem_cons.mpr ⟨List.mem_of_getElem? (i := 138) rfl, List.forall_mem_cons.mpr ⟨List.mem_of_getElem? (i := 139) rfl, List.forall_mem_cons.mpr ⟨List.mem_of_getElem? (i := 140) rfl, List.forall_mem_cons.mpr ⟨List.mem_of_getElem? (i := 208) rfl, List.forall_mem_cons.mpr ⟨List.mem_of_getElem? (i := 141) rfl, List.forall_mem_cons.mpr ⟨List.mem_of_getElem? (i := 142) rfl, List.forall_mem_cons.mpr ⟨List.mem_of_getElem? (i := 143) rfl, List.forall_mem_cons.mpr ⟨List.mem_of_getElem? (i := 144) rfl, List.forall_mem_cons.mpr ⟨List.mem_of_getElem? (i := 212) rfl, List.forall_mem_cons.mpr ⟨List.mem_of_getElem? (i := 145) rfl, List.forall_mem_cons.mpr ⟨List.mem_of_getElem? (i := 147) rfl, List.forall_mem_cons.mpr ⟨List.mem_of_getElem? (i := 7) rfl, List.forall_mem_cons.mpr ⟨List.mem_of_getElem? (i := 148) rfl, List.forall_mem_cons.mpr ⟨List.mem_of_getElem? (i := 213) rfl, List.forall_mem_cons.mpr ⟨List.mem_of_getElem? (i := 149) rfl, List.forall_mem_cons.mpr ⟨List.mem_of_getElem? (i := 150) rfl, List.forall_mem_cons.mpr ⟨List.mem_of_getElem? (i := 151) rfl, fun _ h => absurd h List.not_mem_nil⟩⟩⟩⟩⟩⟩⟩⟩⟩⟩⟩⟩⟩⟩⟩⟩⟩⟩⟩⟩⟩⟩⟩⟩
set_option maxRecDepth 100000 in
theorem wsL_in7 : ∀ w ∈ wsL_law_r7, w ∈ lw_tbl := List.forall_mem_cons.mpr ⟨List.mem_of_getElem? (i := 152) rfl, List.forall_mem_cons.mpr ⟨List.mem_of_getElem? (i := 210) rfl, List.forall_mem_cons.mpr ⟨List.mem_of_getElem? (i := 153) rfl, List.forall_mem_cons.mpr ⟨List.mem_of_getElem? (i := 154) rfl, List.forall_mem_cons.mpr ⟨List.mem_of_getElem? (i := 155) rfl, List.forall_mem_cons.mpr ⟨List.mem_of_getElem? (i := 156) rfl, List.forall_mem_cons.mpr ⟨List.mem_of_getElem? (i := 157) rfl, List.forall_mem_cons.mpr ⟨List.mem_of_getElem? (i := 159) rfl, List.forall_mem_cons.mpr ⟨List.mem_of_getElem? (i := 8) rfl, List.forall_mem_cons.mpr ⟨List.mem_of_getElem? (i := 160) rfl, List.forall_mem_cons.mpr ⟨List.mem_of_getElem? (i := 219) rfl, List.forall_mem_cons.mpr ⟨List.mem_of_getElem? (i := 215) rfl, List.forall_mem_cons.mpr ⟨List.mem_of_getElem? (i := 217) rfl, List.forall_mem_cons.mpr ⟨List.mem_of_getElem? (i := 203) rfl, List.forall_mem_cons.mpr ⟨List.mem_of_getElem? (i := 211) rfl, List.forall_mem_cons.mpr ⟨List.mem_of_getElem? (i := 161) rfl, List.forall_mem_cons.mpr ⟨List.mem_of_getElem? (i := 163) rfl, List.forall_mem_cons.mpr ⟨List.mem_of_getElem? (i := 9) rfl, List.forall_mem_cons.mpr ⟨List.mem_of_getElem? (i := 164) rfl, List.forall_mem_cons.mpr ⟨List.mem_of_getElem? (i := 165) rfl, List.forall_mem_cons.mpr ⟨List.mem_of_getElem? (i := 166) rfl, List.forall_mem_cons.mpr ⟨List.mem_of_getElem? (i := 168) rfl, List.forall_mem_cons.mpr ⟨List.mem_of_getElem? (i := 10) rfl, List.forall_mem_cons.mpr ⟨List.mem_of_getElem? (i := 169) rfl, fun _ h => absurd h List.not_mem_nil⟩⟩⟩⟩⟩⟩⟩⟩⟩⟩⟩⟩⟩⟩⟩⟩⟩⟩⟩⟩⟩⟩⟩⟩
set_option maxRecDepth 100000 in
theorem wsL_in8 : ∀ w ∈ wsL_law_r8, w ∈ lw_tbl := List.forall_mem_cons.mpr ⟨List.mem_of_getElem? (i := 170) rfl, List.forall_mem_cons.mpr ⟨List.mem_of_getElem? (i := 171) rfl, List.forall_mem_cons.mpr ⟨List.mem_of_getElem? (i := 173) rfl, List.forall_mem_cons.mpr ⟨List.mem_of_getElem? (i := 11) rfl, List.forall_mem_cons.mpr ⟨List.mem_of_getElem? (i := 174) rfl, List.forall_mem_cons.mpr ⟨List.mem_of_getElem? (i := 175) rfl, List.forall_mem_cons.mpr ⟨List.mem_of_getElem? (i := 176) rfl, List.forall_mem_cons.mpr ⟨List.mem_of_getElem? (i := 178) rfl, List.forall_mem_cons.mpr ⟨List.mem_of_getElem? (i := 12) rfl, List.forall_mem_cons.mpr ⟨List.mem_of_getElem? (i := 179) rfl, List.forall_mem_cons.mpr ⟨List.mem_of_getElem? (i := 180) rfl, List.forall_mem_cons.mpr ⟨List.mem_of_getElem? (i := 181) rfl, List.forall_mem_cons.mpr ⟨List.mem_of_getElem? (i := 182) rfl, List.forall_mem_cons.mpr ⟨List.mem_of_getElem? (i := 183) rfl, List.forall_mem_cons.mpr ⟨List.mem_of_getElem? (i := 185) rfl, List.forall_mem_cons.mpr ⟨List.mem_of_getElem? (i := 13) rfl, List.forall_mem_cons.mpr ⟨List.mem_of_getElem? (i := 186) rfl, List.forall_mem_cons.mpr ⟨List.mem_of_getElem? (i := 221) rfl, List.forall_mem_cons.mpr ⟨List.mem_of_getElem? (i := 187) rfl, List.forall_mem_cons.mpr ⟨List.mem_of_getElem? (i := 189) rfl, List.forall_mem_cons.mpr ⟨List.mem_of_getElem? (i := 14) rfl, List.forall_mem_cons.mpr ⟨List.mem_of_getElem? (i := 190) rfl, List.forall_mem_cons.mpr ⟨List.mem_of_getElem? (i := 223) rfl, List.forall_mem_cons.mpr ⟨List.mem_of_getElem? (i := 191) rfl, fun _ h => absurd h List.not_mem_nil⟩⟩⟩⟩⟩⟩⟩⟩⟩⟩⟩⟩⟩⟩⟩⟩⟩⟩⟩⟩⟩⟩⟩⟩
set_option maxRecDepth 100000 in
theorem wsL_in9 : ∀ w ∈ wsL_law_r9, w ∈ lw_tbl := List.forall_mem_cons.mpr ⟨List.mem_of_getElem? (i := 193) rfl, List.forall_mem_cons.mpr ⟨List.mem_of_getElem? (i := 15) rfl, List.forall_mem_cons.mpr ⟨List.mem_of_getElem? (i := 194) rfl, List.forall_mem_cons.mpr ⟨List.mem_of_getElem? (i := 196) rfl, List.forall_mem_cons.mpr ⟨List.mem_of_getElem? (i := 197) rfl, List.forall_mem_cons.mpr ⟨List.mem_of_getElem? (i := 198) rfl, List.forall_mem_cons.mpr ⟨List.mem_of_getElem? (i := 199) rfl, List.forall_mem_cons.mpr ⟨List.mem_of_getElem? (i := 214) rfl, List.forall_mem_cons.mpr ⟨List.mem_of_getElem? (i := 216) rfl, List.forall_mem_cons.mpr ⟨List.mem_of_getElem? (i := 218) rfl, List.forall_mem_cons.mpr ⟨List.mem_of_getElem? (i := 220) rfl, List.forall_mem_cons.mpr ⟨List.mem_of_getElem? (i := 222) rfl, List.forall_mem_cons.mpr ⟨List.mem_of_getElem? (i := 200) rfl, List.forall_mem_cons.mpr ⟨List.mem_of_getElem? (i := 202) rfl, List.forall_mem_cons.mpr ⟨List.mem_of_getElem? (i := 206) rfl, List.forall_mem_cons.mpr ⟨List.mem_of_getElem? (i := 204) rfl, List.forall_mem_cons.mpr ⟨List.mem_of_getElem? (i := 385) rfl, List.forall_mem_cons.mpr ⟨List.mem_of_getElem? (i := 386) rfl, List.forall_mem_cons.mpr ⟨List.mem_of_getElem? (i := 387) rfl, List.forall_mem_cons.mpr ⟨List.mem_of_getElem? (i := 388) rfl, List.forall_mem_cons.mpr ⟨List.mem_of_getElem? (i := 389) rfl, List.forall_mem_cons.mpr ⟨List.mem_of_getElem? (i := 391) rfl, List.forall_mem_cons.mpr ⟨List.mem_of_getElem? (i := 21) rfl, List.forall_mem_cons.mpr ⟨List.mem_of_getElem? (i := 392) rfl, fun _ h => absurd h List.not_mem_nil⟩⟩⟩⟩⟩⟩⟩⟩⟩⟩⟩⟩⟩⟩⟩⟩⟩⟩⟩⟩⟩⟩⟩⟩
set_option maxRecDepth 100000 in
theorem wsL_in10 : ∀ w ∈ wsL_law_r10, w ∈ lw_tbl := List.forall_mem_cons.mpr ⟨List.mem_of_getElem? (i := 312) rfl, List.forall_mem_cons.mpr ⟨List.mem_of_getElem? (i := 393) rfl, List.forall_mem_cons.mpr ⟨List.mem_of_getElem? (i := 395) rfl, List.forall_mem_cons.mpr ⟨List.mem_of_getElem? (i := 22) rfl, List.forall_mem_cons.mpr ⟨List.mem_of_getElem? (i := 396) rfl, List.forall_mem_cons.mpr ⟨List.mem_of_getElem? (i := 397) rfl, List.forall_mem_cons.mpr ⟨List.mem_of_getElem? (i := 399) rfl, List.forall_mem_cons.mpr ⟨List.mem_of_getElem? (i := 23) rfl, List.forall_mem_cons.mpr ⟨List.mem_of_getElem? (i := 400) rfl, List.forall_mem_cons.mpr ⟨List.mem_of_getElem? (i := 325) rfl, List.forall_mem_cons.mpr ⟨List.mem_of_getElem? (i := 401) rfl, List.forall_mem_cons.mpr ⟨List.mem_of_getElem? (i := 403) rfl, List.forall_mem_cons.mpr ⟨List.mem_of_getElem? (i := 24) rfl, List.forall_mem_cons.mpr ⟨List.mem_of_getElem? (i := 404) rfl, List.forall_mem_cons.mpr ⟨List.mem_of_getElem? (i := 313) rfl, List.forall_mem_cons.mpr ⟨List.mem_of_getElem? (i := 405) rfl, List.forall_mem_cons.mpr ⟨List.mem_of_getElem? (i := 406) rfl, List.forall_mem_cons.mpr ⟨List.mem_of_getElem? (i := 407) rfl, List.forall_mem_cons.mpr ⟨List.mem_of_getElem? (i := 408) rfl, List.forall_mem_cons.mpr ⟨List.mem_of_getElem? (i := 410) rfl, List.forall_mem_cons.mpr ⟨List.mem_of_getElem? (i := 25) rfl, List.forall_mem_cons.mpr ⟨List.mem_of_getElem? (i := 411) rfl, List.forall_mem_cons.mpr ⟨List.mem_of_getElem? (i := 412) rfl, List.forall_mem_cons.mpr ⟨List.mem_of_getElem? (i := 414) rfl, fun _ h => absurd h List.not_mem_nil⟩⟩⟩⟩⟩⟩⟩⟩⟩⟩⟩⟩⟩⟩⟩⟩⟩⟩⟩⟩⟩⟩⟩⟩
set_option maxRecDepth 100000 in
theorem wsL_in11 : ∀ w ∈ wsL_law_r11, w ∈ lw_tbl := List.forall_mem_cons.mpr ⟨List.mem_of_getElem? (i := 26) rfl, List.forall_mem_cons.mpr ⟨List.mem_of_getElem? (i := 415) rfl, List.forall_mem_cons.mpr ⟨List.mem_of_getElem? (i := 416) rfl, List.forall_mem_cons.mpr ⟨List.mem_of_getElem? (i := 418) rfl, List.forall_mem_cons.mpr ⟨List.mem_of_getElem? (i := 27) rfl, List.forall_mem_cons.mpr ⟨List.mem_of_getElem? (i := 419) rfl, List.forall_mem_cons.mpr ⟨List.mem_of_getElem? (i := 249) rfl, List.forall_mem_cons.mpr ⟨List.mem_of_getElem? (i := 250) rfl, List.forall_mem_cons.mpr ⟨List.mem_of_getElem? (i := 251) rfl, List.forall_mem_cons.mpr ⟨List.mem_of_getElem? (i := 252) rfl, List.forall_mem_cons.mpr ⟨List.mem_of_getElem? (i := 253) rfl, List.forall_mem_cons.mpr ⟨List.mem_of_getElem? (i := 255) rfl, List.forall_mem_cons.mpr ⟨List.mem_of_getElem? (i := 16) rfl, List.forall_mem_cons.mpr ⟨List.mem_of_getElem? (i := 256) rfl, List.forall_mem_cons.mpr ⟨List.mem_of_getElem? (i := 205) rfl, List.forall_mem_cons.mpr ⟨List.mem_of_getElem? (i := 420) rfl, List.forall_mem_cons.mpr ⟨List.mem_of_getElem? (i := 421) rfl, List.forall_mem_cons.mpr ⟨List.mem_of_getElem? (i := 422) rfl, List.forall_mem_cons.mpr ⟨List.mem_of_getElem? (i := 423) rfl, List.forall_mem_cons.mpr ⟨List.mem_of_getElem? (i := 257) rfl, List.forall_mem_cons.mpr ⟨List.mem_of_getElem? (i := 258) rfl, List.forall_mem_cons.mpr ⟨List.mem_of_getElem? (i := 259) rfl, List.forall_mem_cons.mpr ⟨List.mem_of_getElem? (i := 260) rfl, List.forall_mem_cons.mpr ⟨List.mem_of_getElem? (i := 209) rfl, fun _ h => absurd h List.not_mem_nil⟩⟩⟩⟩⟩⟩⟩⟩⟩⟩⟩⟩⟩⟩⟩⟩⟩⟩⟩⟩⟩⟩⟩⟩
set_option maxRecDepth 100000 in
theorem wsL_in12 : ∀ w ∈ wsL_law_r12, w ∈ lw_tbl := List.forall_mem_cons.mpr ⟨List.mem_of_getElem? (i := 424) rfl, List.forall_mem_cons.mpr ⟨List.mem_of_getElem? (i := 425) rfl, List.forall_mem_cons.mpr ⟨List.mem_of_getElem? (i := 426) rfl, List.forall_mem_cons.mpr ⟨List.mem_of_getElem? (i := 427) rfl, List.forall_mem_cons.mpr ⟨List.mem_of_getElem? (i := 261) rfl, List.forall_mem_cons.mpr ⟨List.mem_of_getElem? (i := 262) rfl, List.forall_mem_cons.mpr ⟨List.mem_of_getElem? (i := 263) rfl, List.forall_mem_cons.mpr ⟨List.mem_of_getElem? (i := 264) rfl, List.forall_mem_cons.mpr ⟨List.mem_of_getElem? (i := 428) rfl, List.forall_mem_cons.mpr ⟨List.mem_of_getElem? (i := 429) rfl, List.forall_mem_cons.mpr ⟨List.mem_of_getElem? (i := 430) rfl, List.forall_mem_cons.mpr ⟨List.mem_of_getElem? (i := 431) rfl, List.forall_mem_cons.mpr ⟨List.mem_of_getElem? (i := 265) rfl, List.forall_mem_cons.mpr ⟨List.mem_of_getElem? (i := 266) rfl, List.forall_mem_cons.mpr ⟨List.mem_of_getElem? (i := 267) rfl, List.forall_mem_cons.mpr ⟨List.mem_of_getElem? (i := 268) rfl, List.forall_mem_cons.mpr ⟨List.mem_of_getElem? (i := 269) rfl, List.forall_mem_cons.mpr ⟨List.mem_of_getElem? (i := 271) rfl, List.forall_mem_cons.mpr ⟨List.mem_of_getElem? (i := 17) rfl, List.forall_mem_cons.mpr ⟨List.mem_of_getElem? (i := 272) rfl, List.forall_mem_cons.mpr ⟨List.mem_of_getElem? (i := 432) rfl, List.forall_mem_cons.mpr ⟨List.mem_of_getElem? (i := 433) rfl, List.forall_mem_cons.mpr ⟨List.mem_of_getElem? (i := 434) rfl, List.forall_mem_cons.mpr ⟨List.mem_of_getElem? (i := 435) rfl, fun _ h => absurd h List.not_mem_nil⟩⟩⟩⟩⟩⟩⟩⟩⟩⟩⟩⟩⟩⟩⟩⟩⟩⟩⟩⟩⟩⟩⟩⟩
set_option maxRecDepth 100000 in
theorem wsL_in13 : ∀ w ∈ wsL_law_r13, w ∈ lw_tbl := List.forall_mem_cons.mpr ⟨List.mem_of_getElem? (i := 273) rfl, List.forall_mem_cons.mpr ⟨List.mem_of_getElem? (i := 274) rfl, List.forall_mem_cons.mpr ⟨List.mem_of_getElem? (i := 275) rfl, List.forall_mem_cons.mpr ⟨List.mem_of_getElem? (i := 276) rfl, List.forall_mem_cons.mpr ⟨List.mem_of_getElem? (i := 277) rfl, List.forall_mem_cons.mpr ⟨List.mem_of_getElem? (i := 279) rfl, List.forall_mem_cons.mpr ⟨List.mem_of_getElem? (i := 18) rfl, List.forall_mem_cons.mpr ⟨List.mem_of_getElem? (i := 280) rfl, List.forall_mem_cons.mpr ⟨List.mem_of_getElem? (i := 436) rfl, List.forall_mem_cons.mpr ⟨List.mem_of_getElem? (i := 437) rfl, List.forall_mem_cons.mpr ⟨List.mem_of_getElem? (i := 438) rfl, List.forall_mem_cons.mpr ⟨List.mem_of_getElem? (i := 439) rfl, List.forall_mem_cons.mpr ⟨List.mem_of_getElem? (i := 281) rfl, List.forall_mem_cons.mpr ⟨List.mem_of_getElem? (i := 282) rfl, List.forall_mem_cons.mpr ⟨List.mem_of_getElem? (i := 283) rfl, List.forall_mem_cons.mpr ⟨List.mem_of_getElem? (i := 284) rfl, List.forall_mem_cons.mpr ⟨List.mem_of_getElem? (i := 440) rfl, List.forall_mem_cons.mpr ⟨List.mem_of_getElem? (i := 441) rfl, List.forall_mem_cons.mpr ⟨List.mem_of_getElem? (i := 442) rfl, List.forall_mem_cons.mpr ⟨List.mem_of_getElem? (i := 443) rfl, List.forall_mem_cons.mpr ⟨List.mem_of_getElem? (i := 285) rfl, List.forall_mem_cons.mpr ⟨List.mem_of_getElem? (i := 286) rfl, List.forall_mem_cons.mpr ⟨List.mem_of_getElem? (i := 287) rfl, List.forall_mem_cons.mpr ⟨List.mem_of_getElem? (i := 288) rfl, fun _ h => absurd h List.not_mem_nil⟩⟩⟩⟩⟩⟩⟩⟩⟩⟩⟩⟩⟩⟩⟩⟩⟩⟩⟩⟩⟩⟩⟩⟩
set_option maxRecDepth 100000 in
theorem wsL_in14 : ∀ w ∈ wsL_law_r14, w ∈ lw_tbl := List.forall_mem_cons.mpr ⟨List.mem_of_getElem? (i := 444) rfl, List.forall_mem_cons.mpr ⟨List.mem_of_getElem? (i := 445) rfl, List.forall_mem_cons.mpr ⟨List.mem_of_getElem? (i := 446) rfl, List.forall_mem_cons.mpr ⟨List.mem_of_getElem? (i := 447) rfl, List.forall_mem_cons.mpr ⟨List.mem_of_getElem? (i := 289) rfl, List.forall_mem_cons.mpr ⟨List.mem_of_getElem? (i := 290) rfl, List.forall_mem_cons.mpr ⟨List.mem_of_getElem? (i := 291) rfl, List.forall_mem_cons.mpr ⟨List.mem_of_getElem? (i := 292) rfl, List.forall_mem_cons.mpr ⟨List.mem_of_getElem? (i := 293) rfl, List.forall_mem_cons.mpr ⟨List.mem_of_getElem? (i := 295) rfl, List.forall_mem_cons.mpr ⟨List.mem_of_getElem? (i := 19) rfl, List.forall_mem_cons.mpr ⟨List.mem_of_getElem? (i := 296) rfl, List.forall_mem_cons.mpr ⟨List.mem_of_getElem? (i := 448) rfl, List.forall_mem_cons.mpr ⟨List.mem_of_getElem? (i := 449) rfl, List.forall_mem_cons.mpr ⟨List.mem_of_getElem? (i := 450) rfl, List.forall_mem_cons.mpr ⟨List.mem_of_getElem? (i := 451) rfl, List.forall_mem_cons.mpr ⟨List.mem_of_getElem? (i := 297) rfl, List.forall_mem_cons.mpr ⟨List.mem_of_getElem? (i := 298) rfl, List.forall_mem_cons.mpr ⟨List.mem_of_getElem? (i := 299) rfl, List.forall_mem_cons.mpr ⟨List.mem_of_getElem? (i := 300) rfl, List.forall_mem_cons.mpr ⟨List.mem_of_getElem? (i := 452) rfl, List.forall_mem_cons.mpr ⟨List.mem_of_getElem? (i := 453) rfl, List.forall_mem_cons.mpr ⟨List.mem_of_getElem? (i := 454) rfl, List.forall_mem_cons.mpr ⟨List.mem_of_getElem? (i := 455) rfl, fun _ h => absurd h List.not_mem_nil⟩⟩⟩⟩⟩⟩⟩⟩⟩⟩⟩⟩⟩⟩⟩⟩⟩⟩⟩⟩⟩⟩⟩⟩
set_option maxRecDepth 100000 in
theorem wsL_in15 : ∀ w ∈ wsL_law_r15, w ∈ lw_tbl := List.forall_mem_cons.mpr ⟨List.mem_of_getElem? (i := 301) rfl, List.forall_mem_cons.mpr ⟨List.mem_of_getElem? (i := 302) rfl, List.forall_mem_cons.mpr ⟨List.mem_of_getElem? (i := 303) rfl, List.forall_mem_cons.mpr ⟨List.mem_of_getElem? (i := 304) rfl, List.forall_mem_cons.mpr ⟨List.mem_of_getElem? (i := 456) rfl, List.forall_mem_cons.mpr ⟨List.mem_of_getElem? (i := 457) rfl, List.forall_mem_cons.mpr ⟨List.mem_of_getElem? (i := 458) rfl, List.forall_mem_cons.mpr ⟨List.mem_of_getElem? (i := 459) rfl, fun _ h => absurd h List.not_mem_nil⟩⟩⟩⟩⟩⟩⟩⟩
set_option maxRecDepth 100000 in
theorem wsL_inX1 : ∀ w ∈ wsX10, w ∈ lw_tbl := List.forall_mem_cons.mpr ⟨List.mem_of_getElem? (i := 62) rfl, List.forall_mem_cons.mpr ⟨List.mem_of_getElem? (i := 64) rfl, List.forall_mem_cons.mpr ⟨List.mem_of_getElem? (i := 66) rfl, List.forall_mem_cons.mpr ⟨List.mem_of_getElem? (i := 68) rfl, List.forall_mem_cons.mpr ⟨List.mem_of_getElem? (i := 70) rfl, List.forall_mem_cons.mpr ⟨List.mem_of_getElem? (i := 72) rfl, List.forall_mem_cons.mpr ⟨List.mem_of_getElem? (i := 74) rfl, List.forall_mem_cons.mpr ⟨List.mem_of_getElem? (i := 76) rfl, List.forall_mem_cons.mpr ⟨List.mem_of_getElem? (i := 78) rfl, fun _ h => absurd h List.not_mem_nil⟩⟩⟩⟩⟩⟩⟩⟩⟩
set_option maxRecDepth 100000 in
theorem wsL_inX2 : ∀ w ∈ wsX20, w ∈ lw_tbl := List.forall_mem_cons.mpr ⟨List.mem_of_getElem? (i := 329) rfl, List.forall_mem_cons.mpr ⟨List.mem_of_getElem? (i := 331) rfl, List.forall_mem_cons.mpr ⟨List.mem_of_getElem? (i := 333) rfl, List.forall_mem_cons.mpr ⟨List.mem_of_getElem? (i := 335) rfl, List.forall_mem_cons.mpr ⟨List.mem_of_getElem? (i := 337) rfl, List.forall_mem_cons.mpr ⟨List.mem_of_getElem? (i := 339) rfl, List.forall_mem_cons.mpr ⟨List.mem_of_getElem? (i := 341) rfl, List.forall_mem_cons.mpr ⟨List.mem_of_getElem? (i := 343) rfl, List.forall_mem_cons.mpr ⟨List.mem_of_getElem? (i := 345) rfl, List.forall_mem_cons.mpr ⟨List.mem_of_getElem? (i := 347) rfl, List.forall_mem_cons.mpr ⟨List.mem_of_getElem? (i := 349) rfl, List.forall_mem_cons.mpr ⟨List.mem_of_getElem? (i := 351) rfl, List.forall_mem_cons.mpr ⟨List.mem_of_getElem? (i := 353) rfl, List.forall_mem_cons.mpr ⟨List.mem_of_getElem? (i := 355) rfl, List.forall_mem_cons.mpr ⟨List.mem_of_getElem? (i := 357) rfl, List.forall_mem_cons.mpr ⟨List.mem_of_getElem? (i := 359) rfl, List.forall_mem_cons.mpr ⟨List.mem_of_getElem? (i := 361) rfl, List.forall_mem_cons.mpr ⟨List.mem_of_getElem? (i := 363) rfl, fun _ h => absurd h List.not_mem_nil⟩⟩⟩⟩⟩⟩⟩⟩⟩⟩⟩⟩⟩⟩⟩⟩⟩⟩
set_option maxRecDepth 100000 in
theorem wsL_inX0 : ∀ w ∈ wsX00, w ∈ lw_tbl := List.forall_mem_cons.mpr ⟨List.mem_of_getElem? (i := 224) rfl, List.forall_mem_cons.mpr ⟨List.mem_of_getElem? (i := 226) rfl, List.forall_mem_cons.mpr ⟨List.mem_of_getElem? (i := 228) rfl, List.forall_mem_cons.mpr ⟨List.mem_of_getElem? (i := 230) rfl, List.forall_mem_cons.mpr ⟨List.mem_of_getElem? (i := 232) rfl, List.forall_mem_cons.mpr ⟨List.mem_of_getElem? (i := 234) rfl, List.forall_mem_cons.mpr ⟨List.mem_of_getElem? (i := 236) rfl, List.forall_mem_cons.mpr ⟨List.mem_of_getElem? (i := 238) rfl, List.forall_mem_cons.mpr ⟨List.mem_of_getElem? (i := 240) rfl, List.forall_mem_cons.mpr ⟨List.mem_of_getElem? (i := 242) rfl, List.forall_mem_cons.mpr ⟨List.mem_of_getElem? (i := 244) rfl, List.forall_mem_cons.mpr ⟨List.mem_of_getElem? (i := 246) rfl, fun _ h => absurd h List.not_mem_nil⟩⟩⟩⟩⟩⟩⟩⟩⟩⟩⟩⟩
theorem wsL_law_in : ∀ w ∈ wsL_law, w ∈ lw_tbl := List.forall_mem_append.mpr ⟨List.forall_mem_append.mpr ⟨List.forall_mem_append.mpr ⟨List.forall_mem_append.mpr ⟨List.forall_mem_append.mpr ⟨wsL_in1, List.forall_mem_append.mpr ⟨wsL_in2, List.forall_mem_append.mpr ⟨wsL_in3, List.forall_mem_append.mpr ⟨wsL_in4, List.forall_mem_append.mpr ⟨wsL_in5, List.forall_mem_append.mpr ⟨wsL_in6, List.forall_mem_append.mpr ⟨wsL_in7, List.forall_mem_append.mpr ⟨wsL_in8, List.forall_mem_append.mpr ⟨wsL_in9, List.forall_mem_append.mpr ⟨wsL_in10, List.forall_mem_append.mpr ⟨wsL_in11, List.forall_mem_append.mpr ⟨wsL_in12, List.forall_mem_append.mpr ⟨wsL_in13, List.forall_mem_append.mpr ⟨wsL_in14, wsL_in15⟩⟩⟩⟩⟩⟩⟩⟩⟩⟩⟩⟩⟩⟩, wsL_inX1⟩, wsL_inX2⟩, wsL_inX0⟩, fun _ h => absurd h List.not_mem_nil⟩
theorem inlX0 : ∀ w ∈ wsX00, w ∈ wsL_law := fun _ h => List.mem_append_left _ (List.mem_append_right _ h)
theorem inX0 : ∀ w ∈ wsX00, w ∈ lw_tbl := fun w h => wsL_law_in w (inlX0 w h)
theorem inlX1 : ∀ w ∈ wsX10, w ∈ wsL_law := fun _ h => List.mem_append_left _ (List.mem_append_left _ (List.mem_append_left _ (List.mem_append_right _ h)))
theorem inX1 : ∀ w ∈ wsX10, w ∈ lw_tbl := fun w h => wsL_law_in w (inlX1 w h)
theorem inlX2 : ∀ w ∈ wsX20, w ∈ wsL_law := fun _ h => List.mem_append_left _ (List.mem_append_left _ (List.mem_append_right _ h))
theorem inX2 : ∀ w ∈ wsX20, w ∈ lw_tbl := fun w h => wsL_law_in w (inlX2 w h)
