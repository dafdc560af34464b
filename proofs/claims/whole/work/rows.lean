section
-- ===== PART A: goes FIRST, ahead of the names: the tables' words, and 'selects' of the private methods out of them =====
/-- a private method of a class that the tables say can be made, by its rows of tables_1 -/
def lw_okq (q : MethodName × Nat) : Prop := (q.1.cls ≠ "java/lang/invoke/MethodHandle" ∧ q.1.cls ≠ "java/lang/invoke/VarHandle") ∧ Cond.instantiable q.1.cls q.2 ∈ tables_1 ∧ Cond.privateMethod q.1 ∈ tables_1 ∧ Cond.instanceMethod q.1 ∈ tables_1
theorem lw_p0 : lw_okq (⟨"CallKeepers", "loseCallsAt", "(I)V"⟩, 9) := ⟨⟨by decide +kernel, by decide +kernel⟩, List.mem_of_getElem? (i := 5) (by decide +kernel), List.mem_of_getElem? (i := 63) (by decide +kernel), List.mem_of_getElem? (i := 64) (by decide +kernel)⟩
theorem lw_p1 : lw_okq (⟨"CallKeepers", "stopWaiting", "(LCallKeepers$Call;)V"⟩, 9) := ⟨⟨by decide +kernel, by decide +kernel⟩, List.mem_of_getElem? (i := 5) (by decide +kernel), List.mem_of_getElem? (i := 67) (by decide +kernel), List.mem_of_getElem? (i := 68) (by decide +kernel)⟩
theorem lw_p2 : lw_okq (⟨"CallKeepers", "moveCallsHome", "()V"⟩, 9) := ⟨⟨by decide +kernel, by decide +kernel⟩, List.mem_of_getElem? (i := 5) (by decide +kernel), List.mem_of_getElem? (i := 71) (by decide +kernel), List.mem_of_getElem? (i := 72) (by decide +kernel)⟩
theorem lw_p3 : lw_okq (⟨"CallKeepers", "homeOf", "(I)I"⟩, 9) := ⟨⟨by decide +kernel, by decide +kernel⟩, List.mem_of_getElem? (i := 5) (by decide +kernel), List.mem_of_getElem? (i := 75) (by decide +kernel), List.mem_of_getElem? (i := 76) (by decide +kernel)⟩
theorem lw_p4 : lw_okq (⟨"CallKeepers", "leaveFair", "()V"⟩, 9) := ⟨⟨by decide +kernel, by decide +kernel⟩, List.mem_of_getElem? (i := 5) (by decide +kernel), List.mem_of_getElem? (i := 94) (by decide +kernel), List.mem_of_getElem? (i := 95) (by decide +kernel)⟩
theorem lw_p5 : lw_okq (⟨"CallKeepers", "counted", "(II)I"⟩, 9) := ⟨⟨by decide +kernel, by decide +kernel⟩, List.mem_of_getElem? (i := 5) (by decide +kernel), List.mem_of_getElem? (i := 102) (by decide +kernel), List.mem_of_getElem? (i := 103) (by decide +kernel)⟩
theorem lw_p6 : lw_okq (⟨"CallKeepers", "hearWaiting", "(LCallKeepers$Call;IZI)I"⟩, 9) := ⟨⟨by decide +kernel, by decide +kernel⟩, List.mem_of_getElem? (i := 5) (by decide +kernel), List.mem_of_getElem? (i := 106) (by decide +kernel), List.mem_of_getElem? (i := 107) (by decide +kernel)⟩
theorem lw_p7 : lw_okq (⟨"CallKeepers", "takeIn", "(LCallKeepers$Call;IZI)I"⟩, 9) := ⟨⟨by decide +kernel, by decide +kernel⟩, List.mem_of_getElem? (i := 5) (by decide +kernel), List.mem_of_getElem? (i := 118) (by decide +kernel), List.mem_of_getElem? (i := 119) (by decide +kernel)⟩
theorem lw_p8 : lw_okq (⟨"CallKeepers", "decide", "(LCallKeepers$Call;Z)V"⟩, 9) := ⟨⟨by decide +kernel, by decide +kernel⟩, List.mem_of_getElem? (i := 5) (by decide +kernel), List.mem_of_getElem? (i := 130) (by decide +kernel), List.mem_of_getElem? (i := 131) (by decide +kernel)⟩
theorem lw_p9 : lw_okq (⟨"CallKeepers", "weighTorn", "(LCallKeepers$Call;)I"⟩, 9) := ⟨⟨by decide +kernel, by decide +kernel⟩, List.mem_of_getElem? (i := 5) (by decide +kernel), List.mem_of_getElem? (i := 134) (by decide +kernel), List.mem_of_getElem? (i := 135) (by decide +kernel)⟩
theorem lw_p10 : lw_okq (⟨"CallKeepers", "weighRare", "(LCallKeepers$Call;)I"⟩, 9) := ⟨⟨by decide +kernel, by decide +kernel⟩, List.mem_of_getElem? (i := 5) (by decide +kernel), List.mem_of_getElem? (i := 139) (by decide +kernel), List.mem_of_getElem? (i := 140) (by decide +kernel)⟩
theorem lw_p11 : lw_okq (⟨"CallKeepers", "weighLong", "(LCallKeepers$Call;)I"⟩, 9) := ⟨⟨by decide +kernel, by decide +kernel⟩, List.mem_of_getElem? (i := 5) (by decide +kernel), List.mem_of_getElem? (i := 144) (by decide +kernel), List.mem_of_getElem? (i := 145) (by decide +kernel)⟩
theorem lw_p12 : lw_okq (⟨"CallKeepers", "weighFair", "(LCallKeepers$Call;)I"⟩, 9) := ⟨⟨by decide +kernel, by decide +kernel⟩, List.mem_of_getElem? (i := 5) (by decide +kernel), List.mem_of_getElem? (i := 149) (by decide +kernel), List.mem_of_getElem? (i := 150) (by decide +kernel)⟩
theorem lw_p13 : lw_okq (⟨"CallKeepers", "keepOrLetFall", "(LCallKeepers$Call;)V"⟩, 9) := ⟨⟨by decide +kernel, by decide +kernel⟩, List.mem_of_getElem? (i := 5) (by decide +kernel), List.mem_of_getElem? (i := 156) (by decide +kernel), List.mem_of_getElem? (i := 157) (by decide +kernel)⟩
theorem lw_p14 : lw_okq (⟨"CallKeepers", "recall", "(I)LCallKeepers$Call;"⟩, 9) := ⟨⟨by decide +kernel, by decide +kernel⟩, List.mem_of_getElem? (i := 5) (by decide +kernel), List.mem_of_getElem? (i := 160) (by decide +kernel), List.mem_of_getElem? (i := 161) (by decide +kernel)⟩
theorem lw_p15 : lw_okq (⟨"CallKeepers", "hearDecided", "(LCallKeepers$Call;II)I"⟩, 9) := ⟨⟨by decide +kernel, by decide +kernel⟩, List.mem_of_getElem? (i := 5) (by decide +kernel), List.mem_of_getElem? (i := 164) (by decide +kernel), List.mem_of_getElem? (i := 165) (by decide +kernel)⟩
def lw_privs_1 : List (MethodName × Nat) := [(⟨"CallKeepers", "loseCallsAt", "(I)V"⟩, 9), (⟨"CallKeepers", "stopWaiting", "(LCallKeepers$Call;)V"⟩, 9), (⟨"CallKeepers", "moveCallsHome", "()V"⟩, 9), (⟨"CallKeepers", "homeOf", "(I)I"⟩, 9), (⟨"CallKeepers", "leaveFair", "()V"⟩, 9), (⟨"CallKeepers", "counted", "(II)I"⟩, 9), (⟨"CallKeepers", "hearWaiting", "(LCallKeepers$Call;IZI)I"⟩, 9), (⟨"CallKeepers", "takeIn", "(LCallKeepers$Call;IZI)I"⟩, 9), (⟨"CallKeepers", "decide", "(LCallKeepers$Call;Z)V"⟩, 9), (⟨"CallKeepers", "weighTorn", "(LCallKeepers$Call;)I"⟩, 9), (⟨"CallKeepers", "weighRare", "(LCallKeepers$Call;)I"⟩, 9), (⟨"CallKeepers", "weighLong", "(LCallKeepers$Call;)I"⟩, 9), (⟨"CallKeepers", "weighFair", "(LCallKeepers$Call;)I"⟩, 9), (⟨"CallKeepers", "keepOrLetFall", "(LCallKeepers$Call;)V"⟩, 9), (⟨"CallKeepers", "recall", "(I)LCallKeepers$Call;"⟩, 9), (⟨"CallKeepers", "hearDecided", "(LCallKeepers$Call;II)I"⟩, 9)]
theorem lw_r1 : ∀ q ∈ lw_privs_1, lw_okq q := List.forall_mem_cons.mpr ⟨lw_p0, List.forall_mem_cons.mpr ⟨lw_p1, List.forall_mem_cons.mpr ⟨lw_p2, List.forall_mem_cons.mpr ⟨lw_p3, List.forall_mem_cons.mpr ⟨lw_p4, List.forall_mem_cons.mpr ⟨lw_p5, List.forall_mem_cons.mpr ⟨lw_p6, List.forall_mem_cons.mpr ⟨lw_p7, List.forall_mem_cons.mpr ⟨lw_p8, List.forall_mem_cons.mpr ⟨lw_p9, List.forall_mem_cons.mpr ⟨lw_p10, List.forall_mem_cons.mpr ⟨lw_p11, List.forall_mem_cons.mpr ⟨lw_p12, List.forall_mem_cons.mpr ⟨lw_p13, List.forall_mem_cons.mpr ⟨lw_p14, List.forall_mem_cons.mpr ⟨lw_p15, fun _ h => absurd h List.not_mem_nil⟩⟩⟩⟩⟩⟩⟩⟩⟩⟩⟩⟩⟩⟩⟩⟩
theorem lw_p16 : lw_okq (⟨"CallKeepers", "passOneTick", "()V"⟩, 9) := ⟨⟨by decide +kernel, by decide +kernel⟩, List.mem_of_getElem? (i := 5) (by decide +kernel), List.mem_of_getElem? (i := 226) (by decide +kernel), List.mem_of_getElem? (i := 227) (by decide +kernel)⟩
theorem lw_p17 : lw_okq (⟨"CallKeepers", "keptAt", "(I)LCallKeepers$Call;"⟩, 9) := ⟨⟨by decide +kernel, by decide +kernel⟩, List.mem_of_getElem? (i := 5) (by decide +kernel), List.mem_of_getElem? (i := 242) (by decide +kernel), List.mem_of_getElem? (i := 243) (by decide +kernel)⟩
theorem lw_p18 : lw_okq (⟨"CallKeepers", "closeRowAt", "(I)V"⟩, 9) := ⟨⟨by decide +kernel, by decide +kernel⟩, List.mem_of_getElem? (i := 5) (by decide +kernel), List.mem_of_getElem? (i := 250) (by decide +kernel), List.mem_of_getElem? (i := 251) (by decide +kernel)⟩
theorem lw_p19 : lw_okq (⟨"CallKeepers", "stepOfShare", "(II)I"⟩, 9) := ⟨⟨by decide +kernel, by decide +kernel⟩, List.mem_of_getElem? (i := 5) (by decide +kernel), List.mem_of_getElem? (i := 266) (by decide +kernel), List.mem_of_getElem? (i := 267) (by decide +kernel)⟩
theorem lw_p20 : lw_okq (⟨"CallKeepersModel", "homeOf", "(I)I"⟩, 18) := ⟨⟨by decide +kernel, by decide +kernel⟩, List.mem_of_getElem? (i := 278) (by decide +kernel), List.mem_of_getElem? (i := 346) (by decide +kernel), List.mem_of_getElem? (i := 347) (by decide +kernel)⟩
theorem lw_p21 : lw_okq (⟨"CallKeepersModel", "comes", "(IIZII)I"⟩, 18) := ⟨⟨by decide +kernel, by decide +kernel⟩, List.mem_of_getElem? (i := 278) (by decide +kernel), List.mem_of_getElem? (i := 362) (by decide +kernel), List.mem_of_getElem? (i := 363) (by decide +kernel)⟩
theorem lw_p22 : lw_okq (⟨"CallKeepersModel", "joins", "(IIZI)I"⟩, 18) := ⟨⟨by decide +kernel, by decide +kernel⟩, List.mem_of_getElem? (i := 278) (by decide +kernel), List.mem_of_getElem? (i := 366) (by decide +kernel), List.mem_of_getElem? (i := 367) (by decide +kernel)⟩
theorem lw_p23 : lw_okq (⟨"CallKeepersModel", "decides", "(IZ)V"⟩, 18) := ⟨⟨by decide +kernel, by decide +kernel⟩, List.mem_of_getElem? (i := 278) (by decide +kernel), List.mem_of_getElem? (i := 370) (by decide +kernel), List.mem_of_getElem? (i := 371) (by decide +kernel)⟩
theorem lw_p24 : lw_okq (⟨"CallKeepersModel", "weightOf", "(IIZ)I"⟩, 18) := ⟨⟨by decide +kernel, by decide +kernel⟩, List.mem_of_getElem? (i := 278) (by decide +kernel), List.mem_of_getElem? (i := 374) (by decide +kernel), List.mem_of_getElem? (i := 375) (by decide +kernel)⟩
theorem lw_p25 : lw_okq (⟨"CallKeepersModel", "isKnown", "(I)Z"⟩, 18) := ⟨⟨by decide +kernel, by decide +kernel⟩, List.mem_of_getElem? (i := 278) (by decide +kernel), List.mem_of_getElem? (i := 381) (by decide +kernel), List.mem_of_getElem? (i := 382) (by decide +kernel)⟩
theorem lw_p26 : lw_okq (⟨"CallKeepersModel", "keptAt", "(I)I"⟩, 18) := ⟨⟨by decide +kernel, by decide +kernel⟩, List.mem_of_getElem? (i := 278) (by decide +kernel), List.mem_of_getElem? (i := 385) (by decide +kernel), List.mem_of_getElem? (i := 386) (by decide +kernel)⟩
theorem lw_p27 : lw_okq (⟨"CallKeepersModel", "waitingMany", "()I"⟩, 18) := ⟨⟨by decide +kernel, by decide +kernel⟩, List.mem_of_getElem? (i := 278) (by decide +kernel), List.mem_of_getElem? (i := 389) (by decide +kernel), List.mem_of_getElem? (i := 390) (by decide +kernel)⟩
def lw_privs_2 : List (MethodName × Nat) := [(⟨"CallKeepers", "passOneTick", "()V"⟩, 9), (⟨"CallKeepers", "keptAt", "(I)LCallKeepers$Call;"⟩, 9), (⟨"CallKeepers", "closeRowAt", "(I)V"⟩, 9), (⟨"CallKeepers", "stepOfShare", "(II)I"⟩, 9), (⟨"CallKeepersModel", "homeOf", "(I)I"⟩, 18), (⟨"CallKeepersModel", "comes", "(IIZII)I"⟩, 18), (⟨"CallKeepersModel", "joins", "(IIZI)I"⟩, 18), (⟨"CallKeepersModel", "decides", "(IZ)V"⟩, 18), (⟨"CallKeepersModel", "weightOf", "(IIZ)I"⟩, 18), (⟨"CallKeepersModel", "isKnown", "(I)Z"⟩, 18), (⟨"CallKeepersModel", "keptAt", "(I)I"⟩, 18), (⟨"CallKeepersModel", "waitingMany", "()I"⟩, 18)]
theorem lw_r2 : ∀ q ∈ lw_privs_2, lw_okq q := List.forall_mem_cons.mpr ⟨lw_p16, List.forall_mem_cons.mpr ⟨lw_p17, List.forall_mem_cons.mpr ⟨lw_p18, List.forall_mem_cons.mpr ⟨lw_p19, List.forall_mem_cons.mpr ⟨lw_p20, List.forall_mem_cons.mpr ⟨lw_p21, List.forall_mem_cons.mpr ⟨lw_p22, List.forall_mem_cons.mpr ⟨lw_p23, List.forall_mem_cons.mpr ⟨lw_p24, List.forall_mem_cons.mpr ⟨lw_p25, List.forall_mem_cons.mpr ⟨lw_p26, List.forall_mem_cons.mpr ⟨lw_p27, fun _ h => absurd h List.not_mem_nil⟩⟩⟩⟩⟩⟩⟩⟩⟩⟩⟩⟩
def lw_privs : List (MethodName × Nat) := lw_privs_1 ++ (lw_privs_2)
def lw_tbl : List Cond := k2_sels lw_privs ++ tables_1
theorem lw_privs_ok : ∀ q ∈ lw_privs, lw_okq q := by
  show ∀ q ∈ lw_privs_1 ++ (lw_privs_2), lw_okq q
  exact List.forall_mem_append.mpr ⟨lw_r1, lw_r2⟩
-- ===== end of PART A; then your names; then what follows =====
end
section
def va_AOA (ty : FieldType) (U : State) : Prop := (Cond.arrayOver (.array ty)).before #[] U = true
theorem va_AOA.use {ty : FieldType} {A : Array Value} {U : State} (h : va_AOA ty U) : (Cond.arrayOver (.array ty)).before A U = true := h
/-! ===== BEGIN words of one list among another's, by their places ===== -/
theorem goodIn_r {big : List Cond} (ws : List Cond) (ps : List Nat) (hp : ws = ps.filterMap (fun i => big[i]?)) (h : ws.all goodWord = true) : GoodIn big ws := by
  intro w hw
  have h1 := List.all_eq_true.mp h w hw
  rw [hp] at hw
  obtain ⟨i, -, hi⟩ := List.mem_filterMap.mp hw
  have hm : w ∈ big := by first | exact List.mem_of_getElem? hi | exact List.getElem?_mem hi
  exact ⟨hm, good_of_word h1⟩
theorem goodIn_app {big a b : List Cond} (ha : GoodIn big a) (hb : GoodIn big b) : GoodIn big (a ++ b) := fun w h => (List.mem_append.mp h).elim (ha w) (hb w)
theorem goodIn_ca {big a b : List Cond} {c : Cond} (ha : GoodIn big (c :: a)) (hb : GoodIn big b) : GoodIn big (c :: (a ++ b)) := fun w h => (List.mem_cons.mp h).elim (fun e => ha w (List.mem_cons.mpr (Or.inl e))) (fun h => (List.mem_append.mp h).elim (fun h => ha w (List.mem_cons.mpr (Or.inr h))) (hb w))
theorem goodIn_sub {big ws : List Cond} (hm : ∀ w ∈ ws, w ∈ big) (h : ws.all goodWord = true) : GoodIn big ws := fun w hw => ⟨hm w hw, good_of_word (List.all_eq_true.mp h w hw)⟩
/-! ===== END ===== -/

/-! ===== BEGIN new T[n][m]: the outer array a place, the inner ones among the pooled ===== -/
/-- f, but v at every address of l -/
def vr_up {α : Type} (f : Nat → α) (l : List Nat) (v : α) : Nat → α := fun a => if a ∈ l then v else f a
theorem vr_up_in {α : Type} {f : Nat → α} {l : List Nat} {v : α} {a : Nat} (h : a ∈ l) : vr_up f l v a = v := if_pos h
theorem vr_up_ne {α : Type} {f : Nat → α} {l : List Nat} {v : α} {a : Nat} (h : a ∉ l) : vr_up f l v a = f a := if_neg h
theorem vr_rows {L l : List Nat} {f : Nat → va_E} {e : va_E} (h : ∀ a, a ∈ l → a ∉ L) : va_pl L f ++ l.map (fun a => (a, e)) = va_pl (L ++ l) (vr_up f l e) := by
  unfold va_pl
  rw [List.map_append]
  congr 1
  · apply List.map_congr_left
    intro a ha
    rw [vr_up_ne (fun q => h a q ha)]
  · apply List.map_congr_left
    intro a ha
    rw [vr_up_in ha]
theorem vr_lay {X rows : va_W} {x : Nat × va_E} {pl : va_W} {D : va_G} {cl : List vw_C} {H : Heap} (hP : va_P D cl (((X ++ pl) ++ [x]) ++ rows) H) : va_P D cl ((X ++ [x]) ++ (pl ++ rows)) H := by
  rw [List.append_assoc (X ++ pl)] at hP
  have h := va_P.swap hP
  rw [← List.append_assoc X] at h
  have h2 := va_P.swap h
  rw [List.append_assoc (X ++ [x])] at h2
  exact h2
theorem vr_layD {X rows : va_W} {x : Nat × va_E} {pl : va_W} {A : Nat → Prop} (hD : va_D A (((X ++ pl) ++ [x]) ++ rows)) : va_D A ((X ++ [x]) ++ (pl ++ rows)) := by
  rw [List.append_assoc (X ++ pl)] at hD
  have h := va_D.swap hD
  rw [← List.append_assoc X] at h
  have h2 := va_D.swap h
  rw [List.append_assoc (X ++ [x])] at h2
  exact h2
theorem vr_outer (c : ClassId) (N h0 : Nat) : ∀ i : Nat, Jvm.Free.Multi.outerC c N h0 i = arrV c N (fun j => va_rf (if j < i then some (h0 + 1 + j) else none))
  | 0 => by
    show ({ cls := c, slots := Array.replicate N .null, vm := .none } : Cell) = _
    rw [arrV_new]
    refine congrArg (arrV c N) (funext fun j => ?_)
    simp [va_rf]
  | i + 1 => by
    show (Jvm.Free.Multi.outerC c N h0 i).setSlot i (.ref (h0 + 1 + i)) = _
    rw [vr_outer c N h0 i, arrV_store]
    refine congrArg (arrV c N) (funext fun j => ?_)
    by_cases e : j = i
    · subst e
      simp [updV, va_rf]
    · by_cases h : j < i
      · simp [updV, e, h, Nat.lt_succ_of_lt h]
      · simp [updV, e, h, show ¬ j < i + 1 by omega]
section VGM
variable {p : Program} {l : Launch} {e : Env} {R : Room} {s : State} {m : MethodId} {args : Array Value} {below : List Frame} {meth : Method} {c : Code} {H : Heap} {locs : List Loc} {cells slots : Nat} {Q : State → Prop}
variable {cc : ByteArray} {pc : Nat} {ls : Array Slot} {rest : List Value} {D : va_G} {cl : List vw_C} {A : Nat → Prop} {a : Nat} {tys : List (ClassId × FieldType)} {ws : va_W} {H0 : Heap}
theorem va_mna {X : va_W} {L : List Nat} {f : Nat → va_E} {cc : ByteArray} (hexec : p.tables.exec = Jvm.exec) (hb : c.code = cc) {own : String} {index : Nat} {ty : FieldType} {cy : ClassId} (hown : s.vm.findClass own = some m.cls) (hclink : (Cond.classLink own index ("[" ++ (FieldType.array ty).toString)).before args s = true) (hover : va_AOA ty s) (harr : (Cond.arrayClass ty).before args s = true) (hcy : s.vm.findClass (FieldType.array ty).toString = some cy)
    (hK : va_K D cl tys s) (hP : va_P D cl (X ++ va_pl L f) H) (hD : va_D A (X ++ va_pl L f)) (hS : va_S A H0 H locs) (hA : ∀ q, H0.size ≤ q → A q) {n k : Int32} {N' K' : Nat} {z : vp_A} (hn : ¬ n < 0) (hk : ¬ k < 0) (hN : n.toNatClampNeg = N') (hM : k.toNatClampNeg = K')
    (hb1 : N' * 4 ≤ 536870912) (hb2 : K' * componentBytes ty ≤ 536870912) (hb3 : K' ≤ 536870912) (hdf : fits ty (defaultValue ty) = true) (hdd : (defaultValue ty).isDefault = true) (hcells : cells + (1 + N') ≤ R.cells) (hslots : slots + (N' + N' * K') ≤ R.slots) (hz : ∀ c : ClassId, Jvm.Free.Multi.innerC c K' (defaultValue ty) = vp_cell c z) (hdg : decode cc pc = .ok (.multianewarray index 2, 4))
    (kk : ∀ (q : Nat) (r : Nat → Nat) (cA : ClassId) (H1 : Heap), (∀ i j : Nat, i < N' → j < N' → r i = r j → i = j) → (∀ i : Nat, i < N' → r i ∉ L) → va_K D cl (tys ++ [(cA, .array ty)]) s →
      va_P D cl ((X ++ [(q, .inl (cA, N', .inr (.inr (.inr (.inr (fun i => if i < N' then some (r i) else none))))))]) ++ va_pl (L ++ (List.range N').map r) (vr_up f ((List.range N').map r) (.inl (cy, z)))) H1 → va_D A ((X ++ [(q, .inl (cA, N', .inr (.inr (.inr (.inr (fun i => if i < N' then some (r i) else none))))))]) ++ va_pl (L ++ (List.range N').map r) (vr_up f ((List.range N').map r) (.inl (cy, z)))) → va_S A H0 H1 locs →
      W p l e R s m args below meth c H1 locs (cells + 1 + N') (slots + N' + N' * K') Q (F0 m (pc + 4) ls (.ref q :: rest))) : W p l e R s m args below meth c H locs cells slots Q (F0 m pc ls (.int k :: .int n :: rest)) := by
  subst hN
  subst hM
  intro T hT Xs
  obtain ⟨vm₁, cA, comp, -, fA, fC, hO, -, X', step⟩ := Xs.multianewarray2F hexec hown hclink (va_AOA.use hover) harr (g := F0 m pc ls (.int k :: .int n :: rest)) rfl (by rw [hb]; exact hdg) rfl hn hk hb1 hb2 hb3 hdf hdd hcells hslots
  have ec : some cy = some comp := hcy.symm.trans fC
  cases ec
  generalize hF : Jvm.Free.Multi.fill (T.setVm vm₁) cA cy n.toNatClampNeg k.toNatClampNeg (defaultValue ty) n.toNatClampNeg = F at X' step
  have hTh : (T.setVm vm₁).heap = H := hT
  obtain ⟨f1, f2, -, -⟩ := Jvm.Free.Multi.fill_facts (T.setVm vm₁) cA cy n.toNatClampNeg k.toNatClampNeg (defaultValue ty) n.toNatClampNeg
  rw [hF, hTh] at f1 f2
  have hold : ∀ x : Nat, x < H.size → F.heap[x]? = H[x]? := fun x hx => by
    have := Jvm.Free.Multi.fill_old (T.setVm vm₁) cA cy n.toNatClampNeg k.toNatClampNeg (defaultValue ty) (a := x) (by rw [hTh]; exact hx) n.toNatClampNeg
    rw [hF, hTh] at this
    exact this
  have hrow : ∀ j : Nat, j < n.toNatClampNeg → F.heap[H.size + 1 + j]? = some (vp_cell cy z) := fun j hj => by
    have := Jvm.Free.Multi.fill_inner (T.setVm vm₁) cA cy n.toNatClampNeg k.toNatClampNeg (defaultValue ty) n.toNatClampNeg j hj
    rw [hF, hTh, hz] at this
    exact this
  have hout : Jvm.Free.Multi.outerC cA n.toNatClampNeg H.size n.toNatClampNeg = vp_cell cA (n.toNatClampNeg, .inr (.inr (.inr (.inr (fun i => if i < n.toNatClampNeg then some (H.size + 1 + i) else none))))) := by
    rw [vp_cell_q]
    exact vr_outer cA n.toNatClampNeg H.size n.toNatClampNeg
  rw [hout] at f2
  have hlt : ∀ a, a ∈ L → a < H.size := fun a ha => by
    obtain ⟨k9, hk9⟩ := va_pl_get (X := X) (f := f) ha
    exact (hP k9 _ hk9).lt
  have hnl : ∀ i : Nat, i < n.toNatClampNeg → H.size + 1 + i ∉ L := fun i _ h => by
    have := hlt _ h
    omega
  have hnm : ∀ a, a ∈ (List.range n.toNatClampNeg).map (fun i => H.size + 1 + i) → a ∉ L := fun a ha h => by
    obtain ⟨i, -, rfl⟩ := List.mem_map.mp ha
    have := hlt _ h
    omega
  have hP0 : va_P D cl (X ++ va_pl L f) F.heap := hP.kept (fun k9 x hx => hold x.1 ((hP k9 x hx).lt))
  have hP1 : va_P D cl ((X ++ va_pl L f) ++ [(H.size, .inl (cA, n.toNatClampNeg, .inr (.inr (.inr (.inr (fun i => if i < n.toNatClampNeg then some (H.size + 1 + i) else none))))))]) F.heap := hP0.app (fun k9 x hx => by
    have h0 : k9 < 1 := (List.getElem?_eq_some_iff.mp hx).1
    rw [show k9 = 0 by omega] at hx
    cases hx
    exact f2)
  have hP2 : va_P D cl (((X ++ va_pl L f) ++ [(H.size, .inl (cA, n.toNatClampNeg, .inr (.inr (.inr (.inr (fun i => if i < n.toNatClampNeg then some (H.size + 1 + i) else none))))))]) ++ ((List.range n.toNatClampNeg).map (fun i => H.size + 1 + i)).map (fun a => (a, .inl (cy, z)))) F.heap := hP1.app (fun k9 x hx => by
    obtain ⟨a, ha, rfl⟩ := List.mem_map.mp (List.mem_of_getElem? hx)
    obtain ⟨i, hi, rfl⟩ := List.mem_map.mp ha
    exact hrow i (List.mem_range.mp hi))
  have hD2 : va_D A (((X ++ va_pl L f) ++ [(H.size, .inl (cA, n.toNatClampNeg, .inr (.inr (.inr (.inr (fun i => if i < n.toNatClampNeg then some (H.size + 1 + i) else none))))))]) ++ ((List.range n.toNatClampNeg).map (fun i => H.size + 1 + i)).map (fun a => (a, .inl (cy, z)))) := by
    have hD1 := hD.push (e := .inl (cA, n.toNatClampNeg, .inr (.inr (.inr (.inr (fun i => if i < n.toNatClampNeg then some (H.size + 1 + i) else none)))))) hP rfl (hA _ hS.1)
    generalize hW1 : (X ++ va_pl L f) ++ [(H.size, .inl (cA, n.toNatClampNeg, .inr (.inr (.inr (.inr (fun i => if i < n.toNatClampNeg then some (H.size + 1 + i) else none))))))] = W1 at hD1 hP1 ⊢
    have hle : ∀ (k9 : Nat) (x : Nat × va_E), W1[k9]? = some x → x.1 ≤ H.size := fun k9 x hx => by
      rw [← hW1] at hx
      by_cases hl : k9 < (X ++ va_pl L f).length
      · rw [List.getElem?_append_left hl] at hx
        exact Nat.le_of_lt ((hP k9 x hx).lt)
      · rw [List.getElem?_append_right (by omega)] at hx
        have h0 : k9 - (X ++ va_pl L f).length < 1 := (List.getElem?_eq_some_iff.mp hx).1
        rw [show k9 - (X ++ va_pl L f).length = 0 by omega] at hx
        cases hx
        exact Nat.le_refl _
    have hr : ∀ (k9 : Nat) (x : Nat × va_E), (((List.range n.toNatClampNeg).map (fun i => H.size + 1 + i)).map (fun a => ((a, .inl (cy, z)) : Nat × va_E)))[k9]? = some x → x.1 = H.size + 1 + k9 := fun k9 x hx => by
      rw [List.getElem?_map, List.getElem?_map] at hx
      by_cases h9 : k9 < n.toNatClampNeg
      · rw [List.getElem?_range h9] at hx
        cases hx
        rfl
      · have hn0 : (List.range n.toNatClampNeg)[k9]? = none := List.getElem?_eq_none (by rw [List.length_range]; omega)
        rw [hn0] at hx
        cases hx
    refine ⟨fun i j x y hi hj hxy => ?_, fun k9 x hx => ?_⟩
    · by_cases h1 : i < W1.length <;> by_cases h2 : j < W1.length
      · rw [List.getElem?_append_left h1] at hi
        rw [List.getElem?_append_left h2] at hj
        exact hD1.1 i j x y hi hj hxy
      · rw [List.getElem?_append_left h1] at hi
        rw [List.getElem?_append_right (by omega)] at hj
        have := hle _ _ hi
        have := hr _ _ hj
        omega
      · rw [List.getElem?_append_right (by omega)] at hi
        rw [List.getElem?_append_left h2] at hj
        have := hle _ _ hj
        have := hr _ _ hi
        omega
      · rw [List.getElem?_append_right (by omega)] at hi hj
        have := hr _ _ hi
        have := hr _ _ hj
        omega
    · by_cases h1 : k9 < W1.length
      · rw [List.getElem?_append_left h1] at hx
        exact hD1.2 k9 x hx
      · rw [List.getElem?_append_right (by omega)] at hx
        have := hr _ _ hx
        exact hA _ (by have := hS.1; omega)
  have hAr : ArrOfT s cA (.array ty) := fun N9 z9 => by
    obtain ⟨-, k9, hk9, cm9, hkk9⟩ := (hO 0 0 0).1
    exact ⟨(fun q hq => by cases hq), k9, hk9, cm9, hkk9⟩
  have hK2 : va_K D cl (tys ++ [(cA, .array ty)]) s := ⟨hK.1, fun k9 x hx => by
    by_cases hl : k9 < tys.length
    · rw [List.getElem?_append_left hl] at hx
      exact hK.2 k9 x hx
    · rw [List.getElem?_append_right (by omega)] at hx
      have h0 : k9 - tys.length < 1 := (List.getElem?_eq_some_iff.mp hx).1
      rw [show k9 - tys.length = 0 by omega] at hx
      cases hx
      exact ⟨hAr, fA⟩⟩
  obtain ⟨t, a1, b1⟩ := kk H.size (fun i => H.size + 1 + i) cA F.heap (fun i j _ _ h => by have h9 : H.size + 1 + i = H.size + 1 + j := h; omega) hnl hK2 (by rw [← vr_rows hnm]; exact vr_lay hP2) (by rw [← vr_rows hnm]; exact vr_layD hD2) ⟨by rw [f1]; have := hS.1; omega, fun x h1 h2 => (hold x (Nat.lt_of_lt_of_le h1 hS.1)).trans (hS.2.1 x h1 h2), hS.2.2⟩ F rfl X'
  refine ⟨t, step t ?_, b1⟩
  have e : T.heap.size = H.size := by rw [hT]
  rw [e]
  exact a1
end VGM
/-! ===== END ===== -/
/-! ===== BEGIN printed: names, fields, word lists, decode rows ===== -/
def RX0 : String := "CallKeepers$Call"
def TX0 : u_T := fun k => match k with
  | 0 => ("CallKeepers$Call", "number", "I", true)
  | 1 => ("CallKeepers$Call", "shape", "I", true)
  | 2 => ("CallKeepers$Call", "since", "I", true)
  | 3 => ("CallKeepers$Call", "keeper", "I", false)
  | 4 => ("CallKeepers$Call", "pieces", "I", false)
  | 5 => ("CallKeepers$Call", "length", "I", false)
  | 6 => ("CallKeepers$Call", "last", "I", false)
  | 7 => ("CallKeepers$Call", "decidedAt", "I", false)
  | 8 => ("CallKeepers$Call", "weight", "I", false)
  | 9 => ("CallKeepers$Call", "isTorn", "Z", false)
  | 10 => ("CallKeepers$Call", "isKept", "Z", false)
  | _ => ("CallKeepers$Call", "isTaken", "Z", false)
def tyX0 : Nat → FieldType := fun k => match k with
  | 0 => .int
  | 1 => .int
  | 2 => .int
  | 3 => .int
  | 4 => .int
  | 5 => .int
  | 6 => .int
  | 7 => .int
  | 8 => .int
  | 9 => .boolean
  | 10 => .boolean
  | _ => .boolean
abbrev wsX00 : List Cond := u_ws RX0 TX0 12
theorem nmX0 : ∀ a, a < 12 → ∀ b, b < 12 → a ≠ b → (TX0 a).2.1 ≠ (TX0 b).2.1 := by decide +kernel
theorem tyX0_ok : ∀ k, k < 12 → parseFieldDescriptor (TX0 k).2.2.1 = some (tyX0 k) := by decide +kernel
abbrev cX0_init : ByteArray := prog_2_method_1_code
def yX0_init : MethodName := ⟨RX0, "<init>", "(IIII)V"⟩
abbrev cX0_has : ByteArray := prog_2_method_2_code
def yX0_has : MethodName := ⟨RX0, "has", "(I)Z"⟩
abbrev cX0_add : ByteArray := prog_2_method_3_code
def yX0_add : MethodName := ⟨RX0, "add", "(II)V"⟩
abbrev cX0_contradicts : ByteArray := prog_2_method_4_code
def yX0_contradicts : MethodName := ⟨RX0, "contradicts", "(IZ)Z"⟩
abbrev cX0_isWhole : ByteArray := prog_2_method_5_code
def yX0_isWhole : MethodName := ⟨RX0, "isWhole", "()Z"⟩
def RX1 : String := "CallKeepers"
def TX1 : u_T := fun k => match k with
  | 0 => ("CallKeepers", "isUp", "[Z", true)
  | 1 => ("CallKeepers", "settings", "[I", true)
  | 2 => ("CallKeepers", "counts", "[I", true)
  | 3 => ("CallKeepers", "tallies", "[[I", true)
  | 4 => ("CallKeepers", "steps", "[I", true)
  | 5 => ("CallKeepers", "waiting", "[LCallKeepers$Call;", true)
  | 6 => ("CallKeepers", "decided", "[LCallKeepers$Call;", true)
  | 7 => ("CallKeepers", "row", "[LCallKeepers$Call;", true)
  | _ => ("CallKeepers", "marks", "J", false)
def tyX1 : Nat → FieldType := fun k => match k with
  | 0 => .array .boolean
  | 1 => .array .int
  | 2 => .array .int
  | 3 => .array (.array .int)
  | 4 => .array .int
  | 5 => .array (.object "CallKeepers$Call")
  | 6 => .array (.object "CallKeepers$Call")
  | 7 => .array (.object "CallKeepers$Call")
  | _ => .long
abbrev wsX10 : List Cond := u_ws RX1 TX1 9
theorem nmX1 : ∀ a, a < 9 → ∀ b, b < 9 → a ≠ b → (TX1 a).2.1 ≠ (TX1 b).2.1 := by decide +kernel
theorem tyX1_ok : ∀ k, k < 9 → parseFieldDescriptor (TX1 k).2.2.1 = some (tyX1 k) := by decide +kernel
abbrev cX1_init : ByteArray := prog_1_method_1_code
def yX1_init : MethodName := ⟨RX1, "<init>", "()V"⟩
abbrev cX1_keeper : ByteArray := prog_1_method_2_code
def yX1_keeper : MethodName := ⟨RX1, "keeper", "(IZ)I"⟩
abbrev cX1_home : ByteArray := prog_1_method_3_code
def yX1_home : MethodName := ⟨RX1, "home", "(I)I"⟩
abbrev cX1_set : ByteArray := prog_1_method_4_code
def yX1_set : MethodName := ⟨RX1, "set", "(II)I"⟩
abbrev cX1_piece : ByteArray := prog_1_method_5_code
def yX1_piece : MethodName := ⟨RX1, "piece", "(IIZII)I"⟩
abbrev cX1_tick : ByteArray := prog_1_method_6_code
def yX1_tick : MethodName := ⟨RX1, "tick", "(I)I"⟩
abbrev cX1_waits : ByteArray := prog_1_method_7_code
def yX1_waits : MethodName := ⟨RX1, "waits", "(II)I"⟩
abbrev cX1_remembered : ByteArray := prog_1_method_8_code
def yX1_remembered : MethodName := ⟨RX1, "remembered", "(I)I"⟩
abbrev cX1_kept : ByteArray := prog_1_method_9_code
def yX1_kept : MethodName := ⟨RX1, "kept", "(II)I"⟩
abbrev cX1_take : ByteArray := prog_1_method_10_code
def yX1_take : MethodName := ⟨RX1, "take", "(I)I"⟩
abbrev cX1_shape : ByteArray := prog_1_method_11_code
def yX1_shape : MethodName := ⟨RX1, "shape", "(II)I"⟩
abbrev cX1_step : ByteArray := prog_1_method_12_code
def yX1_step : MethodName := ⟨RX1, "step", "(I)I"⟩
abbrev cX1_bound : ByteArray := prog_1_method_13_code
def yX1_bound : MethodName := ⟨RX1, "bound", "(III)I"⟩
abbrev cX1_count : ByteArray := prog_1_method_14_code
def yX1_count : MethodName := ⟨RX1, "count", "(I)I"⟩
abbrev cX1_trace : ByteArray := prog_1_method_15_code
def yX1_trace : MethodName := ⟨RX1, "trace", "()J"⟩
abbrev cX1_isBelow : ByteArray := prog_1_method_16_code
def yX1_isBelow : MethodName := ⟨RX1, "isBelow", "(II)Z"⟩
abbrev cX1_isWithin : ByteArray := prog_1_method_17_code
def yX1_isWithin : MethodName := ⟨RX1, "isWithin", "(III)Z"⟩
abbrev cX1_counted : ByteArray := prog_1_method_18_code
def yX1_counted : MethodName := ⟨RX1, "counted", "(II)I"⟩
abbrev cX1_homeOf : ByteArray := prog_1_method_19_code
def yX1_homeOf : MethodName := ⟨RX1, "homeOf", "(I)I"⟩
abbrev cX1_loseCallsAt : ByteArray := prog_1_method_20_code
def yX1_loseCallsAt : MethodName := ⟨RX1, "loseCallsAt", "(I)V"⟩
abbrev cX1_moveCallsHome : ByteArray := prog_1_method_21_code
def yX1_moveCallsHome : MethodName := ⟨RX1, "moveCallsHome", "()V"⟩
abbrev cX1_stopWaiting : ByteArray := prog_1_method_22_code
def yX1_stopWaiting : MethodName := ⟨RX1, "stopWaiting", "(LCallKeepers$Call;)V"⟩
abbrev cX1_leaveFair : ByteArray := prog_1_method_23_code
def yX1_leaveFair : MethodName := ⟨RX1, "leaveFair", "()V"⟩
abbrev cX1_hearWaiting : ByteArray := prog_1_method_24_code
def yX1_hearWaiting : MethodName := ⟨RX1, "hearWaiting", "(LCallKeepers$Call;IZI)I"⟩
abbrev cX1_takeIn : ByteArray := prog_1_method_25_code
def yX1_takeIn : MethodName := ⟨RX1, "takeIn", "(LCallKeepers$Call;IZI)I"⟩
abbrev cX1_hearDecided : ByteArray := prog_1_method_26_code
def yX1_hearDecided : MethodName := ⟨RX1, "hearDecided", "(LCallKeepers$Call;II)I"⟩
abbrev cX1_recall : ByteArray := prog_1_method_27_code
def yX1_recall : MethodName := ⟨RX1, "recall", "(I)LCallKeepers$Call;"⟩
abbrev cX1_passOneTick : ByteArray := prog_1_method_28_code
def yX1_passOneTick : MethodName := ⟨RX1, "passOneTick", "()V"⟩
abbrev cX1_decide : ByteArray := prog_1_method_29_code
def yX1_decide : MethodName := ⟨RX1, "decide", "(LCallKeepers$Call;Z)V"⟩
abbrev cX1_keepOrLetFall : ByteArray := prog_1_method_30_code
def yX1_keepOrLetFall : MethodName := ⟨RX1, "keepOrLetFall", "(LCallKeepers$Call;)V"⟩
abbrev cX1_keptAt : ByteArray := prog_1_method_31_code
def yX1_keptAt : MethodName := ⟨RX1, "keptAt", "(I)LCallKeepers$Call;"⟩
abbrev cX1_closeRowAt : ByteArray := prog_1_method_32_code
def yX1_closeRowAt : MethodName := ⟨RX1, "closeRowAt", "(I)V"⟩
abbrev cX1_weighTorn : ByteArray := prog_1_method_33_code
def yX1_weighTorn : MethodName := ⟨RX1, "weighTorn", "(LCallKeepers$Call;)I"⟩
abbrev cX1_weighRare : ByteArray := prog_1_method_34_code
def yX1_weighRare : MethodName := ⟨RX1, "weighRare", "(LCallKeepers$Call;)I"⟩
abbrev cX1_weighLong : ByteArray := prog_1_method_35_code
def yX1_weighLong : MethodName := ⟨RX1, "weighLong", "(LCallKeepers$Call;)I"⟩
abbrev cX1_weighFair : ByteArray := prog_1_method_36_code
def yX1_weighFair : MethodName := ⟨RX1, "weighFair", "(LCallKeepers$Call;)I"⟩
abbrev cX1_stepOf : ByteArray := prog_1_method_37_code
def yX1_stepOf : MethodName := ⟨RX1, "stepOf", "(I)I"⟩
abbrev cX1_stepOfShare : ByteArray := prog_1_method_38_code
def yX1_stepOfShare : MethodName := ⟨RX1, "stepOfShare", "(II)I"⟩
def RX2 : String := "CallKeepersModel"
def TX2 : u_T := fun k => match k with
  | 0 => ("CallKeepersModel", "thrown", "I", false)
  | 1 => ("CallKeepersModel", "now", "I", false)
  | 2 => ("CallKeepersModel", "trace", "J", false)
  | 3 => ("CallKeepersModel", "isDown", "[Z", true)
  | 4 => ("CallKeepersModel", "rules", "[I", true)
  | 5 => ("CallKeepersModel", "keeperOf", "[I", true)
  | 6 => ("CallKeepersModel", "pieces", "[I", true)
  | 7 => ("CallKeepersModel", "shapeOf", "[I", true)
  | 8 => ("CallKeepersModel", "length", "[I", true)
  | 9 => ("CallKeepersModel", "last", "[I", true)
  | 10 => ("CallKeepersModel", "came", "[I", true)
  | 11 => ("CallKeepersModel", "decision", "[I", true)
  | 12 => ("CallKeepersModel", "decidedAt", "[I", true)
  | 13 => ("CallKeepersModel", "kept", "[I", true)
  | 14 => ("CallKeepersModel", "keptMany", "I", false)
  | 15 => ("CallKeepersModel", "sums", "[I", true)
  | 16 => ("CallKeepersModel", "steps", "[I", true)
  | _ => ("CallKeepersModel", "counts", "[I", true)
def tyX2 : Nat → FieldType := fun k => match k with
  | 0 => .int
  | 1 => .int
  | 2 => .long
  | 3 => .array .boolean
  | 4 => .array .int
  | 5 => .array .int
  | 6 => .array .int
  | 7 => .array .int
  | 8 => .array .int
  | 9 => .array .int
  | 10 => .array .int
  | 11 => .array .int
  | 12 => .array .int
  | 13 => .array .int
  | 14 => .int
  | 15 => .array .int
  | 16 => .array .int
  | _ => .array .int
abbrev wsX20 : List Cond := u_ws RX2 TX2 18
theorem nmX2 : ∀ a, a < 18 → ∀ b, b < 18 → a ≠ b → (TX2 a).2.1 ≠ (TX2 b).2.1 := by decide +kernel
theorem tyX2_ok : ∀ k, k < 18 → parseFieldDescriptor (TX2 k).2.2.1 = some (tyX2 k) := by decide +kernel
abbrev cX2_init : ByteArray := prog_4_method_1_code
def yX2_init : MethodName := ⟨RX2, "<init>", "()V"⟩
abbrev cX2_in : ByteArray := prog_4_method_3_code
def yX2_in : MethodName := ⟨RX2, "in", "(III)Z"⟩
abbrev cX2_homeOf : ByteArray := prog_4_method_4_code
def yX2_homeOf : MethodName := ⟨RX2, "homeOf", "(I)I"⟩
abbrev cX2_keeper : ByteArray := prog_4_method_5_code
def yX2_keeper : MethodName := ⟨RX2, "keeper", "(IZ)I"⟩
abbrev cX2_home : ByteArray := prog_4_method_6_code
def yX2_home : MethodName := ⟨RX2, "home", "(I)I"⟩
abbrev cX2_set : ByteArray := prog_4_method_7_code
def yX2_set : MethodName := ⟨RX2, "set", "(II)I"⟩
abbrev cX2_weightOf : ByteArray := prog_4_method_8_code
def yX2_weightOf : MethodName := ⟨RX2, "weightOf", "(IIZ)I"⟩
abbrev cX2_decides : ByteArray := prog_4_method_9_code
def yX2_decides : MethodName := ⟨RX2, "decides", "(IZ)V"⟩
abbrev cX2_isKnown : ByteArray := prog_4_method_10_code
def yX2_isKnown : MethodName := ⟨RX2, "isKnown", "(I)Z"⟩
abbrev cX2_keptAt : ByteArray := prog_4_method_11_code
def yX2_keptAt : MethodName := ⟨RX2, "keptAt", "(I)I"⟩
abbrev cX2_waitingMany : ByteArray := prog_4_method_12_code
def yX2_waitingMany : MethodName := ⟨RX2, "waitingMany", "()I"⟩
abbrev cX2_joins : ByteArray := prog_4_method_13_code
def yX2_joins : MethodName := ⟨RX2, "joins", "(IIZI)I"⟩
abbrev cX2_comes : ByteArray := prog_4_method_14_code
def yX2_comes : MethodName := ⟨RX2, "comes", "(IIZII)I"⟩
abbrev cX2_piece : ByteArray := prog_4_method_15_code
def yX2_piece : MethodName := ⟨RX2, "piece", "(IIZII)I"⟩
abbrev cX2_tick : ByteArray := prog_4_method_16_code
def yX2_tick : MethodName := ⟨RX2, "tick", "(I)I"⟩
abbrev cX2_waits : ByteArray := prog_4_method_17_code
def yX2_waits : MethodName := ⟨RX2, "waits", "(II)I"⟩
abbrev cX2_remembered : ByteArray := prog_4_method_18_code
def yX2_remembered : MethodName := ⟨RX2, "remembered", "(I)I"⟩
abbrev cX2_kept : ByteArray := prog_4_method_19_code
def yX2_kept : MethodName := ⟨RX2, "kept", "(II)I"⟩
abbrev cX2_take : ByteArray := prog_4_method_20_code
def yX2_take : MethodName := ⟨RX2, "take", "(I)I"⟩
abbrev cX2_shape : ByteArray := prog_4_method_21_code
def yX2_shape : MethodName := ⟨RX2, "shape", "(II)I"⟩
abbrev cX2_step : ByteArray := prog_4_method_22_code
def yX2_step : MethodName := ⟨RX2, "step", "(I)I"⟩
abbrev cX2_bound : ByteArray := prog_4_method_23_code
def yX2_bound : MethodName := ⟨RX2, "bound", "(III)I"⟩
abbrev cX2_count : ByteArray := prog_4_method_24_code
def yX2_count : MethodName := ⟨RX2, "count", "(I)I"⟩
abbrev cX2_trace : ByteArray := prog_4_method_25_code
def yX2_trace : MethodName := ⟨RX2, "trace", "()J"⟩
def RJx8e188 : String := "java/lang/Cloneable"
def TJx8e188 : u_T := fun k => match k with
  | _ => ("", "", "", false)
def tyJx8e188 : Nat → FieldType := fun k => match k with
  | _ => .int
abbrev wsJx8e1880 : List Cond := u_ws RJx8e188 TJx8e188 0
theorem nmJx8e188 : ∀ a, a < 0 → ∀ b, b < 0 → a ≠ b → (TJx8e188 a).2.1 ≠ (TJx8e188 b).2.1 := by decide +kernel
theorem tyJx8e188_ok : ∀ k, k < 0 → parseFieldDescriptor (TJx8e188 k).2.2.1 = some (tyJx8e188 k) := by decide +kernel
def RL : String := "CallKeepersLaw"
abbrev cL_law : ByteArray := code
def yL_law : MethodName := ⟨RL, "law", "([I)Z"⟩
def wsL_law_r1 : List Cond := [Cond.classLink RL 7 RX1, Cond.instantiable RX1 9, Cond.initialized RX1, Cond.classLink RL 10 RX2, Cond.instantiable RX2 18, Cond.initialized RX2, Cond.methodLink RL 9 yX1_init, Cond.instanceMethod yX1_init, Cond.code yX1_init cX1_init 2 none, Cond.methodLink RX1 1 objectInit, Cond.instanceMethod objectInit, Cond.code objectInit ⟨#[0xb1]⟩ 1 none, Cond.arrayClass .boolean, Cond.fieldLink RX1 9 "CallKeepers" "isUp" "[Z", Cond.fieldLink RX1 13 "CallKeepers" "FIRST_SETTINGS" "[I", Cond.methodLink RX1 17 ⟨"[I", "clone", "()Ljava/lang/Object;"⟩, Cond.sameMethod "[I" "java/lang/Object" "clone" "()Ljava/lang/Object;", Cond.native ⟨"java/lang/Object", "clone", "()Ljava/lang/Object;"⟩, Cond.instanceMethod ⟨"java/lang/Object", "clone", "()Ljava/lang/Object;"⟩, Cond.selects "[I" ⟨"[I", "clone", "()Ljava/lang/Object;"⟩ ⟨"java/lang/Object", "clone", "()Ljava/lang/Object;"⟩, Cond.classLink RX1 18 "[I", Cond.fieldLink RX1 22 "CallKeepers" "settings" "[I", Cond.arrayClass .int, Cond.fieldLink RX1 25 "CallKeepers" "counts" "[I"]
def wsL_law_r2 : List Cond := [Cond.classLink RX1 28 "[[I", Cond.fieldLink RX1 30 "CallKeepers" "tallies" "[[I", Cond.fieldLink RX1 33 "CallKeepers" "steps" "[I", Cond.classLink RX1 36 RX0, Cond.fieldLink RX1 38 "CallKeepers" "waiting" "[LCallKeepers$Call;", Cond.fieldLink RX1 42 "CallKeepers" "decided" "[LCallKeepers$Call;", Cond.fieldLink RX1 45 "CallKeepers" "row" "[LCallKeepers$Call;", Cond.fieldLink RX1 48 "CallKeepers" "marks" "J", Cond.methodLink RL 12 yX2_init, Cond.instanceMethod yX2_init, Cond.code yX2_init cX2_init 2 none, Cond.methodLink RX2 1 objectInit, Cond.fieldLink RX2 7 "CallKeepersModel" "isDown" "[Z", Cond.fieldLink RX2 13 "CallKeepersModel" "rules" "[I", Cond.fieldLink RX2 17 "CallKeepersModel" "keeperOf" "[I", Cond.fieldLink RX2 20 "CallKeepersModel" "pieces" "[I", Cond.fieldLink RX2 23 "CallKeepersModel" "shapeOf" "[I", Cond.fieldLink RX2 26 "CallKeepersModel" "length" "[I", Cond.fieldLink RX2 29 "CallKeepersModel" "last" "[I", Cond.fieldLink RX2 32 "CallKeepersModel" "came" "[I", Cond.fieldLink RX2 35 "CallKeepersModel" "decision" "[I", Cond.fieldLink RX2 38 "CallKeepersModel" "decidedAt" "[I", Cond.fieldLink RX2 41 "CallKeepersModel" "kept" "[I", Cond.fieldLink RX2 44 "CallKeepersModel" "sums" "[I"]
def wsL_law_r3 : List Cond := [Cond.fieldLink RX2 47 "CallKeepersModel" "steps" "[I", Cond.fieldLink RX2 50 "CallKeepersModel" "counts" "[I", Cond.methodLink RL 13 yX1_keeper, Cond.instanceMethod yX1_keeper, Cond.selects RX1 yX1_keeper yX1_keeper, Cond.code yX1_keeper cX1_keeper 3 (some .int), Cond.methodLink RX1 52 yX1_isBelow, Cond.static yX1_isBelow, Cond.code yX1_isBelow cX1_isBelow 2 (some .boolean), Cond.methodLink RX1 56 yX1_loseCallsAt, Cond.instanceMethod yX1_loseCallsAt, Cond.selects RX1 yX1_loseCallsAt yX1_loseCallsAt, Cond.code yX1_loseCallsAt cX1_loseCallsAt 4 none, Cond.fieldLink RX1 105 "CallKeepers$Call" "keeper" "I", Cond.methodLink RX1 152 yX1_stopWaiting, Cond.instanceMethod yX1_stopWaiting, Cond.selects RX1 yX1_stopWaiting yX1_stopWaiting, Cond.code yX1_stopWaiting cX1_stopWaiting 2 none, Cond.fieldLink RX1 131 "CallKeepers$Call" "number" "I", Cond.methodLink RX1 60 yX1_moveCallsHome, Cond.instanceMethod yX1_moveCallsHome, Cond.selects RX1 yX1_moveCallsHome yX1_moveCallsHome, Cond.code yX1_moveCallsHome cX1_moveCallsHome 4 none, Cond.methodLink RX1 63 yX1_homeOf]
def wsL_law_r4 : List Cond := [Cond.instanceMethod yX1_homeOf, Cond.selects RX1 yX1_homeOf yX1_homeOf, Cond.code yX1_homeOf cX1_homeOf 6 (some .int), Cond.methodLink RL 17 yX2_keeper, Cond.instanceMethod yX2_keeper, Cond.selects RX2 yX2_keeper yX2_keeper, Cond.code yX2_keeper cX2_keeper 4 (some .int), Cond.fieldLink RX2 53 "CallKeepersModel" "thrown" "I", Cond.methodLink RX2 57 yX2_in, Cond.static yX2_in, Cond.code yX2_in cX2_in 3 (some .boolean), Cond.methodLink RX2 61 yX2_homeOf, Cond.instanceMethod yX2_homeOf, Cond.selects RX2 yX2_homeOf yX2_homeOf, Cond.code yX2_homeOf cX2_homeOf 6 (some .int), Cond.methodLink RL 18 yX1_home, Cond.instanceMethod yX1_home, Cond.selects RX1 yX1_home yX1_home, Cond.code yX1_home cX1_home 2 (some .int), Cond.methodLink RL 22 yX2_home, Cond.instanceMethod yX2_home, Cond.selects RX2 yX2_home yX2_home, Cond.code yX2_home cX2_home 2 (some .int), Cond.methodLink RL 23 yX1_set]
def wsL_law_r5 : List Cond := [Cond.instanceMethod yX1_set, Cond.selects RX1 yX1_set yX1_set, Cond.code yX1_set cX1_set 4 (some .int), Cond.fieldLink RX1 67 "CallKeepers" "LEAST_SETTINGS" "[I", Cond.fieldLink RX1 70 "CallKeepers" "GREATEST_SETTINGS" "[I", Cond.methodLink RX1 73 yX1_isWithin, Cond.static yX1_isWithin, Cond.code yX1_isWithin cX1_isWithin 3 (some .boolean), Cond.methodLink RX1 77 yX1_leaveFair, Cond.instanceMethod yX1_leaveFair, Cond.selects RX1 yX1_leaveFair yX1_leaveFair, Cond.code yX1_leaveFair cX1_leaveFair 2 none, Cond.methodLink RL 27 yX2_set, Cond.instanceMethod yX2_set, Cond.selects RX2 yX2_set yX2_set, Cond.code yX2_set cX2_set 6 (some .int), Cond.methodLink RL 28 yX1_piece, Cond.instanceMethod yX1_piece, Cond.selects RX1 yX1_piece yX1_piece, Cond.code yX1_piece cX1_piece 10 (some .int), Cond.instantiable RX0 12, Cond.initialized RX0, Cond.methodLink RX1 80 yX1_counted, Cond.instanceMethod yX1_counted]
def wsL_law_r6 : List Cond := [Cond.selects RX1 yX1_counted yX1_counted, Cond.code yX1_counted cX1_counted 3 (some .int), Cond.methodLink RX1 84 yX1_hearWaiting, Cond.instanceMethod yX1_hearWaiting, Cond.selects RX1 yX1_hearWaiting yX1_hearWaiting, Cond.code yX1_hearWaiting cX1_hearWaiting 5 (some .int), Cond.methodLink RX1 156 yX0_has, Cond.instanceMethod yX0_has, Cond.selects RX0 yX0_has yX0_has, Cond.code yX0_has cX0_has 2 (some .boolean), Cond.fieldLink RX0 9 "CallKeepers$Call" "pieces" "I", Cond.methodLink RX1 160 yX0_contradicts, Cond.instanceMethod yX0_contradicts, Cond.selects RX0 yX0_contradicts yX0_contradicts, Cond.code yX0_contradicts cX0_contradicts 6 (some .boolean), Cond.fieldLink RX0 18 "CallKeepers$Call" "last" "I", Cond.methodLink RX1 99 yX1_takeIn, Cond.instanceMethod yX1_takeIn, Cond.selects RX1 yX1_takeIn yX1_takeIn, Cond.code yX1_takeIn cX1_takeIn 5 (some .int), Cond.fieldLink RX1 118 "CallKeepers$Call" "last" "I", Cond.methodLink RX1 164 yX0_add, Cond.instanceMethod yX0_add, Cond.selects RX0 yX0_add yX0_add]
def wsL_law_r7 : List Cond := [Cond.code yX0_add cX0_add 3 none, Cond.fieldLink RX0 15 "CallKeepers$Call" "length" "I", Cond.methodLink RX1 168 yX0_isWhole, Cond.instanceMethod yX0_isWhole, Cond.selects RX0 yX0_isWhole yX0_isWhole, Cond.code yX0_isWhole cX0_isWhole 2 (some .boolean), Cond.methodLink RX1 172 yX1_decide, Cond.instanceMethod yX1_decide, Cond.selects RX1 yX1_decide yX1_decide, Cond.code yX1_decide cX1_decide 3 none, Cond.fieldLink RX1 137 "CallKeepers$Call" "isTorn" "Z", Cond.fieldLink RX1 140 "CallKeepers$Call" "decidedAt" "I", Cond.fieldLink RX1 134 "CallKeepers$Call" "weight" "I", Cond.fieldLink RX1 112 "CallKeepers$Call" "shape" "I", Cond.fieldLink RX1 115 "CallKeepers$Call" "length" "I", Cond.methodLink RX1 176 yX1_weighTorn, Cond.instanceMethod yX1_weighTorn, Cond.selects RX1 yX1_weighTorn yX1_weighTorn, Cond.code yX1_weighTorn cX1_weighTorn 2 (some .int), Cond.constantLong RX1 189 (1000), Cond.methodLink RX1 180 yX1_weighRare, Cond.instanceMethod yX1_weighRare, Cond.selects RX1 yX1_weighRare yX1_weighRare, Cond.code yX1_weighRare cX1_weighRare 2 (some .int)]
def wsL_law_r8 : List Cond := [Cond.constantLong RX1 191 (100), Cond.methodLink RX1 193 yX1_weighLong, Cond.instanceMethod yX1_weighLong, Cond.selects RX1 yX1_weighLong yX1_weighLong, Cond.code yX1_weighLong cX1_weighLong 2 (some .int), Cond.constantLong RX1 196 (10), Cond.methodLink RX1 198 yX1_weighFair, Cond.instanceMethod yX1_weighFair, Cond.selects RX1 yX1_weighFair yX1_weighFair, Cond.code yX1_weighFair cX1_weighFair 3 (some .int), Cond.methodLink RX1 183 yX1_stepOf, Cond.static yX1_stepOf, Cond.code yX1_stepOf cX1_stepOf 2 (some .int), Cond.methodLink RX1 186 yX1_keepOrLetFall, Cond.instanceMethod yX1_keepOrLetFall, Cond.selects RX1 yX1_keepOrLetFall yX1_keepOrLetFall, Cond.code yX1_keepOrLetFall cX1_keepOrLetFall 3 none, Cond.fieldLink RX1 124 "CallKeepers$Call" "isKept" "Z", Cond.methodLink RX1 88 yX1_recall, Cond.instanceMethod yX1_recall, Cond.selects RX1 yX1_recall yX1_recall, Cond.code yX1_recall cX1_recall 3 (some (.object "CallKeepers$Call")), Cond.fieldLink RX1 146 "CallKeepers$Call" "isTaken" "Z", Cond.methodLink RX1 92 yX1_hearDecided]
def wsL_law_r9 : List Cond := [Cond.instanceMethod yX1_hearDecided, Cond.selects RX1 yX1_hearDecided yX1_hearDecided, Cond.code yX1_hearDecided cX1_hearDecided 5 (some .int), Cond.methodLink RX1 96 yX0_init, Cond.instanceMethod yX0_init, Cond.code yX0_init cX0_init 5 none, Cond.methodLink RX0 3 objectInit, Cond.fieldLink RX0 21 "CallKeepers$Call" "decidedAt" "I", Cond.fieldLink RX0 24 "CallKeepers$Call" "weight" "I", Cond.fieldLink RX0 27 "CallKeepers$Call" "isTorn" "Z", Cond.fieldLink RX0 31 "CallKeepers$Call" "isKept" "Z", Cond.fieldLink RX0 34 "CallKeepers$Call" "isTaken" "Z", Cond.fieldLink RX0 37 "CallKeepers$Call" "number" "I", Cond.fieldLink RX0 40 "CallKeepers$Call" "shape" "I", Cond.fieldLink RX0 43 "CallKeepers$Call" "keeper" "I", Cond.fieldLink RX0 46 "CallKeepers$Call" "since" "I", Cond.methodLink RL 32 yX2_piece, Cond.instanceMethod yX2_piece, Cond.selects RX2 yX2_piece yX2_piece, Cond.code yX2_piece cX2_piece 7 (some .int), Cond.methodLink RX2 104 yX2_comes, Cond.instanceMethod yX2_comes, Cond.selects RX2 yX2_comes yX2_comes, Cond.code yX2_comes cX2_comes 7 (some .int)]
def wsL_law_r10 : List Cond := [Cond.fieldLink RX2 79 "CallKeepersModel" "now" "I", Cond.methodLink RX2 89 yX2_joins, Cond.instanceMethod yX2_joins, Cond.selects RX2 yX2_joins yX2_joins, Cond.code yX2_joins cX2_joins 5 (some .int), Cond.methodLink RX2 85 yX2_decides, Cond.instanceMethod yX2_decides, Cond.selects RX2 yX2_decides yX2_decides, Cond.code yX2_decides cX2_decides 8 none, Cond.fieldLink RX2 82 "CallKeepersModel" "keptMany" "I", Cond.methodLink RX2 75 yX2_weightOf, Cond.instanceMethod yX2_weightOf, Cond.selects RX2 yX2_weightOf yX2_weightOf, Cond.code yX2_weightOf cX2_weightOf 4 (some .int), Cond.fieldLink RX2 65 "CallKeepersModel" "trace" "J", Cond.constantLong RX2 69 (1000), Cond.constantLong RX2 71 (100), Cond.constantLong RX2 73 (10), Cond.methodLink RX2 93 yX2_isKnown, Cond.instanceMethod yX2_isKnown, Cond.selects RX2 yX2_isKnown yX2_isKnown, Cond.code yX2_isKnown cX2_isKnown 2 (some .boolean), Cond.methodLink RX2 97 yX2_keptAt, Cond.instanceMethod yX2_keptAt]
def wsL_law_r11 : List Cond := [Cond.selects RX2 yX2_keptAt yX2_keptAt, Cond.code yX2_keptAt cX2_keptAt 3 (some .int), Cond.methodLink RX2 100 yX2_waitingMany, Cond.instanceMethod yX2_waitingMany, Cond.selects RX2 yX2_waitingMany yX2_waitingMany, Cond.code yX2_waitingMany cX2_waitingMany 3 (some .int), Cond.methodLink RL 33 yX1_tick, Cond.instanceMethod yX1_tick, Cond.selects RX1 yX1_tick yX1_tick, Cond.code yX1_tick cX1_tick 4 (some .int), Cond.methodLink RX1 102 yX1_passOneTick, Cond.instanceMethod yX1_passOneTick, Cond.selects RX1 yX1_passOneTick yX1_passOneTick, Cond.code yX1_passOneTick cX1_passOneTick 3 none, Cond.fieldLink RX1 121 "CallKeepers$Call" "since" "I", Cond.methodLink RL 36 yX2_tick, Cond.instanceMethod yX2_tick, Cond.selects RX2 yX2_tick yX2_tick, Cond.code yX2_tick cX2_tick 5 (some .int), Cond.methodLink RL 37 yX1_waits, Cond.instanceMethod yX1_waits, Cond.selects RX1 yX1_waits yX1_waits, Cond.code yX1_waits cX1_waits 4 (some .int), Cond.fieldLink RX1 109 "CallKeepers$Call" "pieces" "I"]
def wsL_law_r12 : List Cond := [Cond.methodLink RL 40 yX2_waits, Cond.instanceMethod yX2_waits, Cond.selects RX2 yX2_waits yX2_waits, Cond.code yX2_waits cX2_waits 3 (some .int), Cond.methodLink RL 41 yX1_remembered, Cond.instanceMethod yX1_remembered, Cond.selects RX1 yX1_remembered yX1_remembered, Cond.code yX1_remembered cX1_remembered 3 (some .int), Cond.methodLink RL 44 yX2_remembered, Cond.instanceMethod yX2_remembered, Cond.selects RX2 yX2_remembered yX2_remembered, Cond.code yX2_remembered cX2_remembered 2 (some .int), Cond.methodLink RL 45 yX1_kept, Cond.instanceMethod yX1_kept, Cond.selects RX1 yX1_kept yX1_kept, Cond.code yX1_kept cX1_kept 4 (some .int), Cond.methodLink RX1 128 yX1_keptAt, Cond.instanceMethod yX1_keptAt, Cond.selects RX1 yX1_keptAt yX1_keptAt, Cond.code yX1_keptAt cX1_keptAt 2 (some (.object "CallKeepers$Call")), Cond.methodLink RL 48 yX2_kept, Cond.instanceMethod yX2_kept, Cond.selects RX2 yX2_kept yX2_kept, Cond.code yX2_kept cX2_kept 3 (some .int)]
def wsL_law_r13 : List Cond := [Cond.methodLink RL 49 yX1_take, Cond.instanceMethod yX1_take, Cond.selects RX1 yX1_take yX1_take, Cond.code yX1_take cX1_take 3 (some .int), Cond.methodLink RX1 143 yX1_closeRowAt, Cond.instanceMethod yX1_closeRowAt, Cond.selects RX1 yX1_closeRowAt yX1_closeRowAt, Cond.code yX1_closeRowAt cX1_closeRowAt 3 none, Cond.methodLink RL 52 yX2_take, Cond.instanceMethod yX2_take, Cond.selects RX2 yX2_take yX2_take, Cond.code yX2_take cX2_take 6 (some .int), Cond.methodLink RL 53 yX1_shape, Cond.instanceMethod yX1_shape, Cond.selects RX1 yX1_shape yX1_shape, Cond.code yX1_shape cX1_shape 3 (some .int), Cond.methodLink RL 56 yX2_shape, Cond.instanceMethod yX2_shape, Cond.selects RX2 yX2_shape yX2_shape, Cond.code yX2_shape cX2_shape 3 (some .int), Cond.methodLink RL 57 yX1_step, Cond.instanceMethod yX1_step, Cond.selects RX1 yX1_step yX1_step, Cond.code yX1_step cX1_step 2 (some .int)]
def wsL_law_r14 : List Cond := [Cond.methodLink RL 60 yX2_step, Cond.instanceMethod yX2_step, Cond.selects RX2 yX2_step yX2_step, Cond.code yX2_step cX2_step 2 (some .int), Cond.methodLink RL 61 yX1_bound, Cond.instanceMethod yX1_bound, Cond.selects RX1 yX1_bound yX1_bound, Cond.code yX1_bound cX1_bound 5 (some .int), Cond.methodLink RX1 149 yX1_stepOfShare, Cond.instanceMethod yX1_stepOfShare, Cond.selects RX1 yX1_stepOfShare yX1_stepOfShare, Cond.code yX1_stepOfShare cX1_stepOfShare 8 (some .int), Cond.methodLink RL 65 yX2_bound, Cond.instanceMethod yX2_bound, Cond.selects RX2 yX2_bound yX2_bound, Cond.code yX2_bound cX2_bound 7 (some .int), Cond.methodLink RL 66 yX1_count, Cond.instanceMethod yX1_count, Cond.selects RX1 yX1_count yX1_count, Cond.code yX1_count cX1_count 2 (some .int), Cond.methodLink RL 69 yX2_count, Cond.instanceMethod yX2_count, Cond.selects RX2 yX2_count yX2_count, Cond.code yX2_count cX2_count 4 (some .int)]
def wsL_law_r15 : List Cond := [Cond.methodLink RL 70 yX1_trace, Cond.instanceMethod yX1_trace, Cond.selects RX1 yX1_trace yX1_trace, Cond.code yX1_trace cX1_trace 1 (some .long), Cond.methodLink RL 74 yX2_trace, Cond.instanceMethod yX2_trace, Cond.selects RX2 yX2_trace yX2_trace, Cond.code yX2_trace cX2_trace 1 (some .long)]
def wsL_law : List Cond := (wsL_law_r1 ++ (wsL_law_r2 ++ (wsL_law_r3 ++ (wsL_law_r4 ++ (wsL_law_r5 ++ (wsL_law_r6 ++ (wsL_law_r7 ++ (wsL_law_r8 ++ (wsL_law_r9 ++ (wsL_law_r10 ++ (wsL_law_r11 ++ (wsL_law_r12 ++ (wsL_law_r13 ++ (wsL_law_r14 ++ wsL_law_r15)))))))))))))) ++ wsX10 ++ wsX20 ++ wsX00 ++ ([] : List Cond)
set_option maxRecDepth 100000 in
theorem wsL_in1 : ∀ w ∈ wsL_law_r1, w ∈ lw_tbl := List.forall_mem_cons.mpr ⟨List.mem_of_getElem? (i := 32) rfl, List.forall_mem_cons.mpr ⟨List.mem_of_getElem? (i := 33) rfl, List.forall_mem_cons.mpr ⟨List.mem_of_getElem? (i := 29) rfl, List.forall_mem_cons.mpr ⟨List.mem_of_getElem? (i := 305) rfl, List.forall_mem_cons.mpr ⟨List.mem_of_getElem? (i := 306) rfl, List.forall_mem_cons.mpr ⟨List.mem_of_getElem? (i := 30) rfl, List.forall_mem_cons.mpr ⟨List.mem_of_getElem? (i := 34) rfl, List.forall_mem_cons.mpr ⟨List.mem_of_getElem? (i := 35) rfl, List.forall_mem_cons.mpr ⟨List.mem_of_getElem? (i := 36) rfl, List.forall_mem_cons.mpr ⟨List.mem_of_getElem? (i := 37) rfl, List.forall_mem_cons.mpr ⟨List.mem_of_getElem? (i := 38) rfl, List.forall_mem_cons.mpr ⟨List.mem_of_getElem? (i := 39) rfl, List.forall_mem_cons.mpr ⟨List.mem_of_getElem? (i := 81) rfl, List.forall_mem_cons.mpr ⟨List.mem_of_getElem? (i := 53) rfl, List.forall_mem_cons.mpr ⟨List.mem_of_getElem? (i := 40) rfl, List.forall_mem_cons.mpr ⟨List.mem_of_getElem? (i := 42) rfl, List.forall_mem_cons.mpr ⟨List.mem_of_getElem? (i := 43) rfl, List.forall_mem_cons.mpr ⟨List.mem_of_getElem? (i := 44) rfl, List.forall_mem_cons.mpr ⟨List.mem_of_getElem? (i := 45) rfl, List.forall_mem_cons.mpr ⟨List.mem_of_getElem? (i := 46) rfl, List.forall_mem_cons.mpr ⟨List.mem_of_getElem? (i := 48) rfl, List.forall_mem_cons.mpr ⟨List.mem_of_getElem? (i := 54) rfl, List.forall_mem_cons.mpr ⟨List.mem_of_getElem? (i := 82) rfl, List.forall_mem_cons.mpr ⟨List.mem_of_getElem? (i := 55) rfl, fun _ h => absurd h List.not_mem_nil⟩⟩⟩⟩⟩⟩⟩⟩⟩⟩⟩⟩⟩⟩⟩⟩⟩⟩⟩⟩⟩⟩⟩⟩
set_option maxRecDepth 100000 in
theorem wsL_in2 : ∀ w ∈ wsL_law_r2, w ∈ lw_tbl := List.forall_mem_cons.mpr ⟨List.mem_of_getElem? (i := 49) rfl, List.forall_mem_cons.mpr ⟨List.mem_of_getElem? (i := 56) rfl, List.forall_mem_cons.mpr ⟨List.mem_of_getElem? (i := 57) rfl, List.forall_mem_cons.mpr ⟨List.mem_of_getElem? (i := 51) rfl, List.forall_mem_cons.mpr ⟨List.mem_of_getElem? (i := 58) rfl, List.forall_mem_cons.mpr ⟨List.mem_of_getElem? (i := 59) rfl, List.forall_mem_cons.mpr ⟨List.mem_of_getElem? (i := 60) rfl, List.forall_mem_cons.mpr ⟨List.mem_of_getElem? (i := 61) rfl, List.forall_mem_cons.mpr ⟨List.mem_of_getElem? (i := 307) rfl, List.forall_mem_cons.mpr ⟨List.mem_of_getElem? (i := 308) rfl, List.forall_mem_cons.mpr ⟨List.mem_of_getElem? (i := 309) rfl, List.forall_mem_cons.mpr ⟨List.mem_of_getElem? (i := 310) rfl, List.forall_mem_cons.mpr ⟨List.mem_of_getElem? (i := 314) rfl, List.forall_mem_cons.mpr ⟨List.mem_of_getElem? (i := 315) rfl, List.forall_mem_cons.mpr ⟨List.mem_of_getElem? (i := 316) rfl, List.forall_mem_cons.mpr ⟨List.mem_of_getElem? (i := 317) rfl, List.forall_mem_cons.mpr ⟨List.mem_of_getElem? (i := 318) rfl, List.forall_mem_cons.mpr ⟨List.mem_of_getElem? (i := 319) rfl, List.forall_mem_cons.mpr ⟨List.mem_of_getElem? (i := 320) rfl, List.forall_mem_cons.mpr ⟨List.mem_of_getElem? (i := 321) rfl, List.forall_mem_cons.mpr ⟨List.mem_of_getElem? (i := 322) rfl, List.forall_mem_cons.mpr ⟨List.mem_of_getElem? (i := 323) rfl, List.forall_mem_cons.mpr ⟨List.mem_of_getElem? (i := 324) rfl, List.forall_mem_cons.mpr ⟨List.mem_of_getElem? (i := 326) rfl, fun _ h => absurd h List.not_mem_nil⟩⟩⟩⟩⟩⟩⟩⟩⟩⟩⟩⟩⟩⟩⟩⟩⟩⟩⟩⟩⟩⟩⟩⟩
set_option maxRecDepth 100000 in
theorem wsL_in3 : ∀ w ∈ wsL_law_r3, w ∈ lw_tbl := List.forall_mem_cons.mpr ⟨List.mem_of_getElem? (i := 327) rfl, List.forall_mem_cons.mpr ⟨List.mem_of_getElem? (i := 328) rfl, List.forall_mem_cons.mpr ⟨List.mem_of_getElem? (i := 83) rfl, List.forall_mem_cons.mpr ⟨List.mem_of_getElem? (i := 84) rfl, List.forall_mem_cons.mpr ⟨List.mem_of_getElem? (i := 85) rfl, List.forall_mem_cons.mpr ⟨List.mem_of_getElem? (i := 86) rfl, List.forall_mem_cons.mpr ⟨List.mem_of_getElem? (i := 87) rfl, List.forall_mem_cons.mpr ⟨List.mem_of_getElem? (i := 88) rfl, List.forall_mem_cons.mpr ⟨List.mem_of_getElem? (i := 89) rfl, List.forall_mem_cons.mpr ⟨List.mem_of_getElem? (i := 90) rfl, List.forall_mem_cons.mpr ⟨List.mem_of_getElem? (i := 92) rfl, List.forall_mem_cons.mpr ⟨List.mem_of_getElem? (i := 0) rfl, List.forall_mem_cons.mpr ⟨List.mem_of_getElem? (i := 93) rfl, List.forall_mem_cons.mpr ⟨List.mem_of_getElem? (i := 207) rfl, List.forall_mem_cons.mpr ⟨List.mem_of_getElem? (i := 94) rfl, List.forall_mem_cons.mpr ⟨List.mem_of_getElem? (i := 96) rfl, List.forall_mem_cons.mpr ⟨List.mem_of_getElem? (i := 1) rfl, List.forall_mem_cons.mpr ⟨List.mem_of_getElem? (i := 97) rfl, List.forall_mem_cons.mpr ⟨List.mem_of_getElem? (i := 201) rfl, List.forall_mem_cons.mpr ⟨List.mem_of_getElem? (i := 98) rfl, List.forall_mem_cons.mpr ⟨List.mem_of_getElem? (i := 100) rfl, List.forall_mem_cons.mpr ⟨List.mem_of_getElem? (i := 2) rfl, List.forall_mem_cons.mpr ⟨List.mem_of_getElem? (i := 101) rfl, List.forall_mem_cons.mpr ⟨List.mem_of_getElem? (i := 102) rfl, fun _ h => absurd h List.not_mem_nil⟩⟩⟩⟩⟩⟩⟩⟩⟩⟩⟩⟩⟩⟩⟩⟩⟩⟩⟩⟩⟩⟩⟩⟩
set_option maxRecDepth 100000 in
theorem wsL_in4 : ∀ w ∈ wsL_law_r4, w ∈ lw_tbl := List.forall_mem_cons.mpr ⟨List.mem_of_getElem? (i := 104) rfl, List.forall_mem_cons.mpr ⟨List.mem_of_getElem? (i := 3) rfl, List.forall_mem_cons.mpr ⟨List.mem_of_getElem? (i := 105) rfl, List.forall_mem_cons.mpr ⟨List.mem_of_getElem? (i := 366) rfl, List.forall_mem_cons.mpr ⟨List.mem_of_getElem? (i := 367) rfl, List.forall_mem_cons.mpr ⟨List.mem_of_getElem? (i := 368) rfl, List.forall_mem_cons.mpr ⟨List.mem_of_getElem? (i := 369) rfl, List.forall_mem_cons.mpr ⟨List.mem_of_getElem? (i := 311) rfl, List.forall_mem_cons.mpr ⟨List.mem_of_getElem? (i := 370) rfl, List.forall_mem_cons.mpr ⟨List.mem_of_getElem? (i := 371) rfl, List.forall_mem_cons.mpr ⟨List.mem_of_getElem? (i := 372) rfl, List.forall_mem_cons.mpr ⟨List.mem_of_getElem? (i := 373) rfl, List.forall_mem_cons.mpr ⟨List.mem_of_getElem? (i := 375) rfl, List.forall_mem_cons.mpr ⟨List.mem_of_getElem? (i := 20) rfl, List.forall_mem_cons.mpr ⟨List.mem_of_getElem? (i := 376) rfl, List.forall_mem_cons.mpr ⟨List.mem_of_getElem? (i := 106) rfl, List.forall_mem_cons.mpr ⟨List.mem_of_getElem? (i := 107) rfl, List.forall_mem_cons.mpr ⟨List.mem_of_getElem? (i := 108) rfl, List.forall_mem_cons.mpr ⟨List.mem_of_getElem? (i := 109) rfl, List.forall_mem_cons.mpr ⟨List.mem_of_getElem? (i := 377) rfl, List.forall_mem_cons.mpr ⟨List.mem_of_getElem? (i := 378) rfl, List.forall_mem_cons.mpr ⟨List.mem_of_getElem? (i := 379) rfl, List.forall_mem_cons.mpr ⟨List.mem_of_getElem? (i := 380) rfl, List.forall_mem_cons.mpr ⟨List.mem_of_getElem? (i := 110) rfl, fun _ h => absurd h List.not_mem_nil⟩⟩⟩⟩⟩⟩⟩⟩⟩⟩⟩⟩⟩⟩⟩⟩⟩⟩⟩⟩⟩⟩⟩⟩
set_option maxRecDepth 100000 in
theorem wsL_in5 : ∀ w ∈ wsL_law_r5, w ∈ lw_tbl := List.forall_mem_cons.mpr ⟨List.mem_of_getElem? (i := 111) rfl, List.forall_mem_cons.mpr ⟨List.mem_of_getElem? (i := 112) rfl, List.forall_mem_cons.mpr ⟨List.mem_of_getElem? (i := 113) rfl, List.forall_mem_cons.mpr ⟨List.mem_of_getElem? (i := 114) rfl, List.forall_mem_cons.mpr ⟨List.mem_of_getElem? (i := 116) rfl, List.forall_mem_cons.mpr ⟨List.mem_of_getElem? (i := 118) rfl, List.forall_mem_cons.mpr ⟨List.mem_of_getElem? (i := 119) rfl, List.forall_mem_cons.mpr ⟨List.mem_of_getElem? (i := 120) rfl, List.forall_mem_cons.mpr ⟨List.mem_of_getElem? (i := 121) rfl, List.forall_mem_cons.mpr ⟨List.mem_of_getElem? (i := 123) rfl, List.forall_mem_cons.mpr ⟨List.mem_of_getElem? (i := 4) rfl, List.forall_mem_cons.mpr ⟨List.mem_of_getElem? (i := 124) rfl, List.forall_mem_cons.mpr ⟨List.mem_of_getElem? (i := 381) rfl, List.forall_mem_cons.mpr ⟨List.mem_of_getElem? (i := 382) rfl, List.forall_mem_cons.mpr ⟨List.mem_of_getElem? (i := 383) rfl, List.forall_mem_cons.mpr ⟨List.mem_of_getElem? (i := 384) rfl, List.forall_mem_cons.mpr ⟨List.mem_of_getElem? (i := 125) rfl, List.forall_mem_cons.mpr ⟨List.mem_of_getElem? (i := 126) rfl, List.forall_mem_cons.mpr ⟨List.mem_of_getElem? (i := 127) rfl, List.forall_mem_cons.mpr ⟨List.mem_of_getElem? (i := 128) rfl, List.forall_mem_cons.mpr ⟨List.mem_of_getElem? (i := 195) rfl, List.forall_mem_cons.mpr ⟨List.mem_of_getElem? (i := 31) rfl, List.forall_mem_cons.mpr ⟨List.mem_of_getElem? (i := 129) rfl, List.forall_mem_cons.mpr ⟨List.mem_of_getElem? (i := 131) rfl, fun _ h => absurd h List.not_mem_nil⟩⟩⟩⟩⟩⟩⟩⟩⟩⟩⟩⟩⟩⟩⟩⟩⟩⟩⟩⟩⟩⟩⟩⟩
set_option maxRecDepth 100000 in
theorem wsL_in6 : ∀ w ∈ wsL_law_r6, w ∈ lw_tbl := List.forall_mem_cons.mpr ⟨List.mem_of_getElem? (i := 5) rfl, List.forall_mem_cons.mpr ⟨List.mem_of_getElem? (i := 132) rfl, List.forall_mem_cons.mpr ⟨List.mem_of_getElem? (i := 133) rfl, List.forall_mem_cons.mpr ⟨List.mem_of_getElem? (i := 135) rfl, List.forall_mem_cons.mpr ⟨List.mem_of_getElem? (i := 6) rfl, List.forall_mem_cons.mpr ⟨List.mem_of_getElem? (i := 136) rfl, List.forall_mem_cons.mpr ⟨List.mem_of_getElem? (i := 137) rfl, List.forall_mem_cons.mpr ⟨List.mem_of_getElem? (i := 138) rfl, List.forall_mem_cons.mpr ⟨List.mem_of_getElem? (i := 139) rfl, List.forall_mem_cons.mpr ⟨List.mem_of_getElem? (i := 140) rfl, List.forall_mem_cons.mpr ⟨List.mem_of_getElem? (i := 208) rfl, List.forall_mem_cons.mpr ⟨List.mem_of_getElem? (i := 141) rfl, List.forall_mem_cons.mpr ⟨List.mem_of_getElem? (i := 142) rfl, List.forall_mem_cons.mpr ⟨List.mem_of_getElem? (i := 143) rfl, List.forall_mem_cons.mpr ⟨List.mem_of_getElem? (i := 144) rfl, List.forall_mem_cons.mpr ⟨List.mem_of_getElem? (i := 212) rfl, List.forall_mem_cons.mpr ⟨List.mem_of_getElem? (i := 145) rfl, List.forall_mem_cons.mpr ⟨List.mem_of_getElem? (i := 147) rfl, List.forall_mem_cons.mpr ⟨List.mem_of_getElem? (i := 7) rfl, List.forall_mem_cons.mpr ⟨List.mem_of_getElem? (i := 148) rfl, List.forall_mem_cons.mpr ⟨List.mem_of_getElem? (i := 213) rfl, List.forall_mem_cons.mpr ⟨List.mem_of_getElem? (i := 149) rfl, List.forall_mem_cons.mpr ⟨List.mem_of_getElem? (i := 150) rfl, List.forall_mem_cons.mpr ⟨List.mem_of_getElem? (i := 151) rfl, fun _ h => absurd h List.not_mem_nil⟩⟩⟩⟩⟩⟩⟩⟩⟩⟩⟩⟩⟩⟩⟩⟩⟩⟩⟩⟩⟩⟩⟩⟩
set_option maxRecDepth 100000 in
theorem wsL_in7 : ∀ w ∈ wsL_law_r7, w ∈ lw_tbl := List.forall_mem_cons.mpr ⟨List.mem_of_getElem? (i := 152) rfl, List.forall_mem_cons.mpr ⟨List.mem_of_getElem? (i := 210) rfl, List.forall_mem_cons.mpr ⟨List.mem_of_getElem? (i := 153) rfl, List.forall_mem_cons.mpr ⟨List.mem_of_getElem? (i := 154) rfl, List.forall_mem_cons.mpr ⟨List.mem_of_getElem? (i := 155) rfl, List.forall_mem_cons.mpr ⟨List.mem_of_getElem? (i := 156) rfl, List.forall_mem_cons.mpr ⟨List.mem_of_getElem? (i := 157) rfl, List.forall_mem_cons.mpr ⟨List.mem_of_getElem? (i := 159) rfl, List.forall_mem_cons.mpr ⟨List.mem_of_getElem? (i := 8) rfl, List.forall_mem_cons.mpr ⟨List.mem_of_getElem? (i := 160) rfl, List.forall_mem_cons.mpr ⟨List.mem_of_getElem? (i := 219) rfl, List.forall_mem_cons.mpr ⟨List.mem_of_getElem? (i := 215) rfl, List.forall_mem_cons.mpr ⟨List.mem_of_getElem? (i := 217) rfl, List.forall_mem_cons.mpr ⟨List.mem_of_getElem? (i := 203) rfl, List.forall_mem_cons.mpr ⟨List.mem_of_getElem? (i := 211) rfl, List.forall_mem_cons.mpr ⟨List.mem_of_getElem? (i := 161) rfl, List.forall_mem_cons.mpr ⟨List.mem_of_getElem? (i := 163) rfl, List.forall_mem_cons.mpr ⟨List.mem_of_getElem? (i := 9) rfl, List.forall_mem_cons.mpr ⟨List.mem_of_getElem? (i := 164) rfl, List.forall_mem_cons.mpr ⟨List.mem_of_getElem? (i := 165) rfl, List.forall_mem_cons.mpr ⟨List.mem_of_getElem? (i := 166) rfl, List.forall_mem_cons.mpr ⟨List.mem_of_getElem? (i := 168) rfl, List.forall_mem_cons.mpr ⟨List.mem_of_getElem? (i := 10) rfl, List.forall_mem_cons.mpr ⟨List.mem_of_getElem? (i := 169) rfl, fun _ h => absurd h List.not_mem_nil⟩⟩⟩⟩⟩⟩⟩⟩⟩⟩⟩⟩⟩⟩⟩⟩⟩⟩⟩⟩⟩⟩⟩⟩
set_option maxRecDepth 100000 in
theorem wsL_in8 : ∀ w ∈ wsL_law_r8, w ∈ lw_tbl := List.forall_mem_cons.mpr ⟨List.mem_of_getElem? (i := 170) rfl, List.forall_mem_cons.mpr ⟨List.mem_of_getElem? (i := 171) rfl, List.forall_mem_cons.mpr ⟨List.mem_of_getElem? (i := 173) rfl, List.forall_mem_cons.mpr ⟨List.mem_of_getElem? (i := 11) rfl, List.forall_mem_cons.mpr ⟨List.mem_of_getElem? (i := 174) rfl, List.forall_mem_cons.mpr ⟨List.mem_of_getElem? (i := 175) rfl, List.forall_mem_cons.mpr ⟨List.mem_of_getElem? (i := 176) rfl, List.forall_mem_cons.mpr ⟨List.mem_of_getElem? (i := 178) rfl, List.forall_mem_cons.mpr ⟨List.mem_of_getElem? (i := 12) rfl, List.forall_mem_cons.mpr ⟨List.mem_of_getElem? (i := 179) rfl, List.forall_mem_cons.mpr ⟨List.mem_of_getElem? (i := 180) rfl, List.forall_mem_cons.mpr ⟨List.mem_of_getElem? (i := 181) rfl, List.forall_mem_cons.mpr ⟨List.mem_of_getElem? (i := 182) rfl, List.forall_mem_cons.mpr ⟨List.mem_of_getElem? (i := 183) rfl, List.forall_mem_cons.mpr ⟨List.mem_of_getElem? (i := 185) rfl, List.forall_mem_cons.mpr ⟨List.mem_of_getElem? (i := 13) rfl, List.forall_mem_cons.mpr ⟨List.mem_of_getElem? (i := 186) rfl, List.forall_mem_cons.mpr ⟨List.mem_of_getElem? (i := 221) rfl, List.forall_mem_cons.mpr ⟨List.mem_of_getElem? (i := 187) rfl, List.forall_mem_cons.mpr ⟨List.mem_of_getElem? (i := 189) rfl, List.forall_mem_cons.mpr ⟨List.mem_of_getElem? (i := 14) rfl, List.forall_mem_cons.mpr ⟨List.mem_of_getElem? (i := 190) rfl, List.forall_mem_cons.mpr ⟨List.mem_of_getElem? (i := 223) rfl, List.forall_mem_cons.mpr ⟨List.mem_of_getElem? (i := 191) rfl, fun _ h => absurd h List.not_mem_nil⟩⟩⟩⟩⟩⟩⟩⟩⟩⟩⟩⟩⟩⟩⟩⟩⟩⟩⟩⟩⟩⟩⟩⟩
set_option maxRecDepth 100000 in
theorem wsL_in9 : ∀ w ∈ wsL_law_r9, w ∈ lw_tbl := List.forall_mem_cons.mpr ⟨List.mem_of_getElem? (i := 193) rfl, List.forall_mem_cons.mpr ⟨List.mem_of_getElem? (i := 15) rfl, List.forall_mem_cons.mpr ⟨List.mem_of_getElem? (i := 194) rfl, List.forall_mem_cons.mpr ⟨List.mem_of_getElem? (i := 196) rfl, List.forall_mem_cons.mpr ⟨List.mem_of_getElem? (i := 197) rfl, List.forall_mem_cons.mpr ⟨List.mem_of_getElem? (i := 198) rfl, List.forall_mem_cons.mpr ⟨List.mem_of_getElem? (i := 199) rfl, List.forall_mem_cons.mpr ⟨List.mem_of_getElem? (i := 214) rfl, List.forall_mem_cons.mpr ⟨List.mem_of_getElem? (i := 216) rfl, List.forall_mem_cons.mpr ⟨List.mem_of_getElem? (i := 218) rfl, List.forall_mem_cons.mpr ⟨List.mem_of_getElem? (i := 220) rfl, List.forall_mem_cons.mpr ⟨List.mem_of_getElem? (i := 222) rfl, List.forall_mem_cons.mpr ⟨List.mem_of_getElem? (i := 200) rfl, List.forall_mem_cons.mpr ⟨List.mem_of_getElem? (i := 202) rfl, List.forall_mem_cons.mpr ⟨List.mem_of_getElem? (i := 206) rfl, List.forall_mem_cons.mpr ⟨List.mem_of_getElem? (i := 204) rfl, List.forall_mem_cons.mpr ⟨List.mem_of_getElem? (i := 385) rfl, List.forall_mem_cons.mpr ⟨List.mem_of_getElem? (i := 386) rfl, List.forall_mem_cons.mpr ⟨List.mem_of_getElem? (i := 387) rfl, List.forall_mem_cons.mpr ⟨List.mem_of_getElem? (i := 388) rfl, List.forall_mem_cons.mpr ⟨List.mem_of_getElem? (i := 389) rfl, List.forall_mem_cons.mpr ⟨List.mem_of_getElem? (i := 391) rfl, List.forall_mem_cons.mpr ⟨List.mem_of_getElem? (i := 21) rfl, List.forall_mem_cons.mpr ⟨List.mem_of_getElem? (i := 392) rfl, fun _ h => absurd h List.not_mem_nil⟩⟩⟩⟩⟩⟩⟩⟩⟩⟩⟩⟩⟩⟩⟩⟩⟩⟩⟩⟩⟩⟩⟩⟩
set_option maxRecDepth 100000 in
theorem wsL_in10 : ∀ w ∈ wsL_law_r10, w ∈ lw_tbl := List.forall_mem_cons.mpr ⟨List.mem_of_getElem? (i := 312) rfl, List.forall_mem_cons.mpr ⟨List.mem_of_getElem? (i := 393) rfl, List.forall_mem_cons.mpr ⟨List.mem_of_getElem? (i := 395) rfl, List.forall_mem_cons.mpr ⟨List.mem_of_getElem? (i := 22) rfl, List.forall_mem_cons.mpr ⟨List.mem_of_getElem? (i := 396) rfl, List.forall_mem_cons.mpr ⟨List.mem_of_getElem? (i := 397) rfl, List.forall_mem_cons.mpr ⟨List.mem_of_getElem? (i := 399) rfl, List.forall_mem_cons.mpr ⟨List.mem_of_getElem? (i := 23) rfl, List.forall_mem_cons.mpr ⟨List.mem_of_getElem? (i := 400) rfl, List.forall_mem_cons.mpr ⟨List.mem_of_getElem? (i := 325) rfl, List.forall_mem_cons.mpr ⟨List.mem_of_getElem? (i := 401) rfl, List.forall_mem_cons.mpr ⟨List.mem_of_getElem? (i := 403) rfl, List.forall_mem_cons.mpr ⟨List.mem_of_getElem? (i := 24) rfl, List.forall_mem_cons.mpr ⟨List.mem_of_getElem? (i := 404) rfl, List.forall_mem_cons.mpr ⟨List.mem_of_getElem? (i := 313) rfl, List.forall_mem_cons.mpr ⟨List.mem_of_getElem? (i := 405) rfl, List.forall_mem_cons.mpr ⟨List.mem_of_getElem? (i := 406) rfl, List.forall_mem_cons.mpr ⟨List.mem_of_getElem? (i := 407) rfl, List.forall_mem_cons.mpr ⟨List.mem_of_getElem? (i := 408) rfl, List.forall_mem_cons.mpr ⟨List.mem_of_getElem? (i := 410) rfl, List.forall_mem_cons.mpr ⟨List.mem_of_getElem? (i := 25) rfl, List.forall_mem_cons.mpr ⟨List.mem_of_getElem? (i := 411) rfl, List.forall_mem_cons.mpr ⟨List.mem_of_getElem? (i := 412) rfl, List.forall_mem_cons.mpr ⟨List.mem_of_getElem? (i := 414) rfl, fun _ h => absurd h List.not_mem_nil⟩⟩⟩⟩⟩⟩⟩⟩⟩⟩⟩⟩⟩⟩⟩⟩⟩⟩⟩⟩⟩⟩⟩⟩
set_option maxRecDepth 100000 in
theorem wsL_in11 : ∀ w ∈ wsL_law_r11, w ∈ lw_tbl := List.forall_mem_cons.mpr ⟨List.mem_of_getElem? (i := 26) rfl, List.forall_mem_cons.mpr ⟨List.mem_of_getElem? (i := 415) rfl, List.forall_mem_cons.mpr ⟨List.mem_of_getElem? (i := 416) rfl, List.forall_mem_cons.mpr ⟨List.mem_of_getElem? (i := 418) rfl, List.forall_mem_cons.mpr ⟨List.mem_of_getElem? (i := 27) rfl, List.forall_mem_cons.mpr ⟨List.mem_of_getElem? (i := 419) rfl, List.forall_mem_cons.mpr ⟨List.mem_of_getElem? (i := 249) rfl, List.forall_mem_cons.mpr ⟨List.mem_of_getElem? (i := 250) rfl, List.forall_mem_cons.mpr ⟨List.mem_of_getElem? (i := 251) rfl, List.forall_mem_cons.mpr ⟨List.mem_of_getElem? (i := 252) rfl, List.forall_mem_cons.mpr ⟨List.mem_of_getElem? (i := 253) rfl, List.forall_mem_cons.mpr ⟨List.mem_of_getElem? (i := 255) rfl, List.forall_mem_cons.mpr ⟨List.mem_of_getElem? (i := 16) rfl, List.forall_mem_cons.mpr ⟨List.mem_of_getElem? (i := 256) rfl, List.forall_mem_cons.mpr ⟨List.mem_of_getElem? (i := 205) rfl, List.forall_mem_cons.mpr ⟨List.mem_of_getElem? (i := 420) rfl, List.forall_mem_cons.mpr ⟨List.mem_of_getElem? (i := 421) rfl, List.forall_mem_cons.mpr ⟨List.mem_of_getElem? (i := 422) rfl, List.forall_mem_cons.mpr ⟨List.mem_of_getElem? (i := 423) rfl, List.forall_mem_cons.mpr ⟨List.mem_of_getElem? (i := 257) rfl, List.forall_mem_cons.mpr ⟨List.mem_of_getElem? (i := 258) rfl, List.forall_mem_cons.mpr ⟨List.mem_of_getElem? (i := 259) rfl, List.forall_mem_cons.mpr ⟨List.mem_of_getElem? (i := 260) rfl, List.forall_mem_cons.mpr ⟨List.mem_of_getElem? (i := 209) rfl, fun _ h => absurd h List.not_mem_nil⟩⟩⟩⟩⟩⟩⟩⟩⟩⟩⟩⟩⟩⟩⟩⟩⟩⟩⟩⟩⟩⟩⟩⟩
set_option maxRecDepth 100000 in
theorem wsL_in12 : ∀ w ∈ wsL_law_r12, w ∈ lw_tbl := List.forall_mem_cons.mpr ⟨List.mem_of_getElem? (i := 424) rfl, List.forall_mem_cons.mpr ⟨List.mem_of_getElem? (i := 425) rfl, List.forall_mem_cons.mpr ⟨List.mem_of_getElem? (i := 426) rfl, List.forall_mem_cons.mpr ⟨List.mem_of_getElem? (i := 427) rfl, List.forall_mem_cons.mpr ⟨List.mem_of_getElem? (i := 261) rfl, List.forall_mem_cons.mpr ⟨List.mem_of_getElem? (i := 262) rfl, List.forall_mem_cons.mpr ⟨List.mem_of_getElem? (i := 263) rfl, List.forall_mem_cons.mpr ⟨List.mem_of_getElem? (i := 264) rfl, List.forall_mem_cons.mpr ⟨List.mem_of_getElem? (i := 428) rfl, List.forall_mem_cons.mpr ⟨List.mem_of_getElem? (i := 429) rfl, List.forall_mem_cons.mpr ⟨List.mem_of_getElem? (i := 430) rfl, List.forall_mem_cons.mpr ⟨List.mem_of_getElem? (i := 431) rfl, List.forall_mem_cons.mpr ⟨List.mem_of_getElem? (i := 265) rfl, List.forall_mem_cons.mpr ⟨List.mem_of_getElem? (i := 266) rfl, List.forall_mem_cons.mpr ⟨List.mem_of_getElem? (i := 267) rfl, List.forall_mem_cons.mpr ⟨List.mem_of_getElem? (i := 268) rfl, List.forall_mem_cons.mpr ⟨List.mem_of_getElem? (i := 269) rfl, List.forall_mem_cons.mpr ⟨List.mem_of_getElem? (i := 271) rfl, List.forall_mem_cons.mpr ⟨List.mem_of_getElem? (i := 17) rfl, List.forall_mem_cons.mpr ⟨List.mem_of_getElem? (i := 272) rfl, List.forall_mem_cons.mpr ⟨List.mem_of_getElem? (i := 432) rfl, List.forall_mem_cons.mpr ⟨List.mem_of_getElem? (i := 433) rfl, List.forall_mem_cons.mpr ⟨List.mem_of_getElem? (i := 434) rfl, List.forall_mem_cons.mpr ⟨List.mem_of_getElem? (i := 435) rfl, fun _ h => absurd h List.not_mem_nil⟩⟩⟩⟩⟩⟩⟩⟩⟩⟩⟩⟩⟩⟩⟩⟩⟩⟩⟩⟩⟩⟩⟩⟩
set_option maxRecDepth 100000 in
theorem wsL_in13 : ∀ w ∈ wsL_law_r13, w ∈ lw_tbl := List.forall_mem_cons.mpr ⟨List.mem_of_getElem? (i := 273) rfl, List.forall_mem_cons.mpr ⟨List.mem_of_getElem? (i := 274) rfl, List.forall_mem_cons.mpr ⟨List.mem_of_getElem? (i := 275) rfl, List.forall_mem_cons.mpr ⟨List.mem_of_getElem? (i := 276) rfl, List.forall_mem_cons.mpr ⟨List.mem_of_getElem? (i := 277) rfl, List.forall_mem_cons.mpr ⟨List.mem_of_getElem? (i := 279) rfl, List.forall_mem_cons.mpr ⟨List.mem_of_getElem? (i := 18) rfl, List.forall_mem_cons.mpr ⟨List.mem_of_getElem? (i := 280) rfl, List.forall_mem_cons.mpr ⟨List.mem_of_getElem? (i := 436) rfl, List.forall_mem_cons.mpr ⟨List.mem_of_getElem? (i := 437) rfl, List.forall_mem_cons.mpr ⟨List.mem_of_getElem? (i := 438) rfl, List.forall_mem_cons.mpr ⟨List.mem_of_getElem? (i := 439) rfl, List.forall_mem_cons.mpr ⟨List.mem_of_getElem? (i := 281) rfl, List.forall_mem_cons.mpr ⟨List.mem_of_getElem? (i := 282) rfl, List.forall_mem_cons.mpr ⟨List.mem_of_getElem? (i := 283) rfl, List.forall_mem_cons.mpr ⟨List.mem_of_getElem? (i := 284) rfl, List.forall_mem_cons.mpr ⟨List.mem_of_getElem? (i := 440) rfl, List.forall_mem_cons.mpr ⟨List.mem_of_getElem? (i := 441) rfl, List.forall_mem_cons.mpr ⟨List.mem_of_getElem? (i := 442) rfl, List.forall_mem_cons.mpr ⟨List.mem_of_getElem? (i := 443) rfl, List.forall_mem_cons.mpr ⟨List.mem_of_getElem? (i := 285) rfl, List.forall_mem_cons.mpr ⟨List.mem_of_getElem? (i := 286) rfl, List.forall_mem_cons.mpr ⟨List.mem_of_getElem? (i := 287) rfl, List.forall_mem_cons.mpr ⟨List.mem_of_getElem? (i := 288) rfl, fun _ h => absurd h List.not_mem_nil⟩⟩⟩⟩⟩⟩⟩⟩⟩⟩⟩⟩⟩⟩⟩⟩⟩⟩⟩⟩⟩⟩⟩⟩
set_option maxRecDepth 100000 in
theorem wsL_in14 : ∀ w ∈ wsL_law_r14, w ∈ lw_tbl := List.forall_mem_cons.mpr ⟨List.mem_of_getElem? (i := 444) rfl, List.forall_mem_cons.mpr ⟨List.mem_of_getElem? (i := 445) rfl, List.forall_mem_cons.mpr ⟨List.mem_of_getElem? (i := 446) rfl, List.forall_mem_cons.mpr ⟨List.mem_of_getElem? (i := 447) rfl, List.forall_mem_cons.mpr ⟨List.mem_of_getElem? (i := 289) rfl, List.forall_mem_cons.mpr ⟨List.mem_of_getElem? (i := 290) rfl, List.forall_mem_cons.mpr ⟨List.mem_of_getElem? (i := 291) rfl, List.forall_mem_cons.mpr ⟨List.mem_of_getElem? (i := 292) rfl, List.forall_mem_cons.mpr ⟨List.mem_of_getElem? (i := 293) rfl, List.forall_mem_cons.mpr ⟨List.mem_of_getElem? (i := 295) rfl, List.forall_mem_cons.mpr ⟨List.mem_of_getElem? (i := 19) rfl, List.forall_mem_cons.mpr ⟨List.mem_of_getElem? (i := 296) rfl, List.forall_mem_cons.mpr ⟨List.mem_of_getElem? (i := 448) rfl, List.forall_mem_cons.mpr ⟨List.mem_of_getElem? (i := 449) rfl, List.forall_mem_cons.mpr ⟨List.mem_of_getElem? (i := 450) rfl, List.forall_mem_cons.mpr ⟨List.mem_of_getElem? (i := 451) rfl, List.forall_mem_cons.mpr ⟨List.mem_of_getElem? (i := 297) rfl, List.forall_mem_cons.mpr ⟨List.mem_of_getElem? (i := 298) rfl, List.forall_mem_cons.mpr ⟨List.mem_of_getElem? (i := 299) rfl, List.forall_mem_cons.mpr ⟨List.mem_of_getElem? (i := 300) rfl, List.forall_mem_cons.mpr ⟨List.mem_of_getElem? (i := 452) rfl, List.forall_mem_cons.mpr ⟨List.mem_of_getElem? (i := 453) rfl, List.forall_mem_cons.mpr ⟨List.mem_of_getElem? (i := 454) rfl, List.forall_mem_cons.mpr ⟨List.mem_of_getElem? (i := 455) rfl, fun _ h => absurd h List.not_mem_nil⟩⟩⟩⟩⟩⟩⟩⟩⟩⟩⟩⟩⟩⟩⟩⟩⟩⟩⟩⟩⟩⟩⟩⟩
set_option maxRecDepth 100000 in
theorem wsL_in15 : ∀ w ∈ wsL_law_r15, w ∈ lw_tbl := List.forall_mem_cons.mpr ⟨List.mem_of_getElem? (i := 301) rfl, List.forall_mem_cons.mpr ⟨List.mem_of_getElem? (i := 302) rfl, List.forall_mem_cons.mpr ⟨List.mem_of_getElem? (i := 303) rfl, List.forall_mem_cons.mpr ⟨List.mem_of_getElem? (i := 304) rfl, List.forall_mem_cons.mpr ⟨List.mem_of_getElem? (i := 456) rfl, List.forall_mem_cons.mpr ⟨List.mem_of_getElem? (i := 457) rfl, List.forall_mem_cons.mpr ⟨List.mem_of_getElem? (i := 458) rfl, List.forall_mem_cons.mpr ⟨List.mem_of_getElem? (i := 459) rfl, fun _ h => absurd h List.not_mem_nil⟩⟩⟩⟩⟩⟩⟩⟩
set_option maxRecDepth 100000 in
theorem wsL_inX1 : ∀ w ∈ wsX10, w ∈ lw_tbl := List.forall_mem_cons.mpr ⟨List.mem_of_getElem? (i := 62) rfl, List.forall_mem_cons.mpr ⟨List.mem_of_getElem? (i := 64) rfl, List.forall_mem_cons.mpr ⟨List.mem_of_getElem? (i := 66) rfl, List.forall_mem_cons.mpr ⟨List.mem_of_getElem? (i := 68) rfl, List.forall_mem_cons.mpr ⟨List.mem_of_getElem? (i := 70) rfl, List.forall_mem_cons.mpr ⟨List.mem_of_getElem? (i := 72) rfl, List.forall_mem_cons.mpr ⟨List.mem_of_getElem? (i := 74) rfl, List.forall_mem_cons.mpr ⟨List.mem_of_getElem? (i := 76) rfl, List.forall_mem_cons.mpr ⟨List.mem_of_getElem? (i := 78) rfl, fun _ h => absurd h List.not_mem_nil⟩⟩⟩⟩⟩⟩⟩⟩⟩
set_option maxRecDepth 100000 in
theorem wsL_inX2 : ∀ w ∈ wsX20, w ∈ lw_tbl := List.forall_mem_cons.mpr ⟨List.mem_of_getElem? (i := 329) rfl, List.forall_mem_cons.mpr ⟨List.mem_of_getElem? (i := 331) rfl, List.forall_mem_cons.mpr ⟨List.mem_of_getElem? (i := 333) rfl, List.forall_mem_cons.mpr ⟨List.mem_of_getElem? (i := 335) rfl, List.forall_mem_cons.mpr ⟨List.mem_of_getElem? (i := 337) rfl, List.forall_mem_cons.mpr ⟨List.mem_of_getElem? (i := 339) rfl, List.forall_mem_cons.mpr ⟨List.mem_of_getElem? (i := 341) rfl, List.forall_mem_cons.mpr ⟨List.mem_of_getElem? (i := 343) rfl, List.forall_mem_cons.mpr ⟨List.mem_of_getElem? (i := 345) rfl, List.forall_mem_cons.mpr ⟨List.mem_of_getElem? (i := 347) rfl, List.forall_mem_cons.mpr ⟨List.mem_of_getElem? (i := 349) rfl, List.forall_mem_cons.mpr ⟨List.mem_of_getElem? (i := 351) rfl, List.forall_mem_cons.mpr ⟨List.mem_of_getElem? (i := 353) rfl, List.forall_mem_cons.mpr ⟨List.mem_of_getElem? (i := 355) rfl, List.forall_mem_cons.mpr ⟨List.mem_of_getElem? (i := 357) rfl, List.forall_mem_cons.mpr ⟨List.mem_of_getElem? (i := 359) rfl, List.forall_mem_cons.mpr ⟨List.mem_of_getElem? (i := 361) rfl, List.forall_mem_cons.mpr ⟨List.mem_of_getElem? (i := 363) rfl, fun _ h => absurd h List.not_mem_nil⟩⟩⟩⟩⟩⟩⟩⟩⟩⟩⟩⟩⟩⟩⟩⟩⟩⟩
set_option maxRecDepth 100000 in
theorem wsL_inX0 : ∀ w ∈ wsX00, w ∈ lw_tbl := List.forall_mem_cons.mpr ⟨List.mem_of_getElem? (i := 224) rfl, List.forall_mem_cons.mpr ⟨List.mem_of_getElem? (i := 226) rfl, List.forall_mem_cons.mpr ⟨List.mem_of_getElem? (i := 228) rfl, List.forall_mem_cons.mpr ⟨List.mem_of_getElem? (i := 230) rfl, List.forall_mem_cons.mpr ⟨List.mem_of_getElem? (i := 232) rfl, List.forall_mem_cons.mpr ⟨List.mem_of_getElem? (i := 234) rfl, List.forall_mem_cons.mpr ⟨List.mem_of_getElem? (i := 236) rfl, List.forall_mem_cons.mpr ⟨List.mem_of_getElem? (i := 238) rfl, List.forall_mem_cons.mpr ⟨List.mem_of_getElem? (i := 240) rfl, List.forall_mem_cons.mpr ⟨List.mem_of_getElem? (i := 242) rfl, List.forall_mem_cons.mpr ⟨List.mem_of_getElem? (i := 244) rfl, List.forall_mem_cons.mpr ⟨List.mem_of_getElem? (i := 246) rfl, fun _ h => absurd h List.not_mem_nil⟩⟩⟩⟩⟩⟩⟩⟩⟩⟩⟩⟩
theorem wsL_law_in : ∀ w ∈ wsL_law, w ∈ lw_tbl := List.forall_mem_append.mpr ⟨List.forall_mem_append.mpr ⟨List.forall_mem_append.mpr ⟨List.forall_mem_append.mpr ⟨List.forall_mem_append.mpr ⟨wsL_in1, List.forall_mem_append.mpr ⟨wsL_in2, List.forall_mem_append.mpr ⟨wsL_in3, List.forall_mem_append.mpr ⟨wsL_in4, List.forall_mem_append.mpr ⟨wsL_in5, List.forall_mem_append.mpr ⟨wsL_in6, List.forall_mem_append.mpr ⟨wsL_in7, List.forall_mem_append.mpr ⟨wsL_in8, List.forall_mem_append.mpr ⟨wsL_in9, List.forall_mem_append.mpr ⟨wsL_in10, List.forall_mem_append.mpr ⟨wsL_in11, List.forall_mem_append.mpr ⟨wsL_in12, List.forall_mem_append.mpr ⟨wsL_in13, List.forall_mem_append.mpr ⟨wsL_in14, wsL_in15⟩⟩⟩⟩⟩⟩⟩⟩⟩⟩⟩⟩⟩⟩, wsL_inX1⟩, wsL_inX2⟩, wsL_inX0⟩, fun _ h => absurd h List.not_mem_nil⟩
theorem inlX0 : ∀ w ∈ wsX00, w ∈ wsL_law := fun _ h => List.mem_append_left _ (List.mem_append_right _ h)
theorem inX0 : ∀ w ∈ wsX00, w ∈ lw_tbl := fun w h => wsL_law_in w (inlX0 w h)
theorem inlX1 : ∀ w ∈ wsX10, w ∈ wsL_law := fun _ h => List.mem_append_left _ (List.mem_append_left _ (List.mem_append_left _ (List.mem_append_right _ h)))
theorem inX1 : ∀ w ∈ wsX10, w ∈ lw_tbl := fun w h => wsL_law_in w (inlX1 w h)
theorem inlX2 : ∀ w ∈ wsX20, w ∈ wsL_law := fun _ h => List.mem_append_left _ (List.mem_append_left _ (List.mem_append_right _ h))
theorem inX2 : ∀ w ∈ wsX20, w ∈ lw_tbl := fun w h => wsL_law_in w (inlX2 w h)
end
section
theorem dX0_init_0 : decode cX0_init 0 = .ok (.aload_n 0, 1) := by decide +kernel
theorem dX0_init_1 : decode cX0_init 1 = .ok (.invokespecial 3, 3) := by decide +kernel
theorem dX0_init_4 : decode cX0_init 4 = .ok (.aload_n 0, 1) := by decide +kernel
theorem dX0_init_5 : decode cX0_init 5 = .ok (.iconst 0, 1) := by decide +kernel
theorem dX0_init_6 : decode cX0_init 6 = .ok (.putfield 9, 3) := by decide +kernel
theorem dX0_init_9 : decode cX0_init 9 = .ok (.aload_n 0, 1) := by decide +kernel
theorem dX0_init_10 : decode cX0_init 10 = .ok (.iconst 0, 1) := by decide +kernel
theorem dX0_init_11 : decode cX0_init 11 = .ok (.putfield 15, 3) := by decide +kernel
theorem dX0_init_14 : decode cX0_init 14 = .ok (.aload_n 0, 1) := by decide +kernel
theorem dX0_init_15 : decode cX0_init 15 = .ok (.bipush (-9), 2) := by decide +kernel
theorem dX0_init_17 : decode cX0_init 17 = .ok (.putfield 18, 3) := by decide +kernel
theorem dX0_init_20 : decode cX0_init 20 = .ok (.aload_n 0, 1) := by decide +kernel
theorem dX0_init_21 : decode cX0_init 21 = .ok (.iconst 0, 1) := by decide +kernel
theorem dX0_init_22 : decode cX0_init 22 = .ok (.putfield 21, 3) := by decide +kernel
theorem dX0_init_25 : decode cX0_init 25 = .ok (.aload_n 0, 1) := by decide +kernel
theorem dX0_init_26 : decode cX0_init 26 = .ok (.iconst 0, 1) := by decide +kernel
theorem dX0_init_27 : decode cX0_init 27 = .ok (.putfield 24, 3) := by decide +kernel
theorem dX0_init_30 : decode cX0_init 30 = .ok (.aload_n 0, 1) := by decide +kernel
theorem dX0_init_31 : decode cX0_init 31 = .ok (.iconst 0, 1) := by decide +kernel
theorem dX0_init_32 : decode cX0_init 32 = .ok (.putfield 27, 3) := by decide +kernel
theorem dX0_init_35 : decode cX0_init 35 = .ok (.aload_n 0, 1) := by decide +kernel
theorem dX0_init_36 : decode cX0_init 36 = .ok (.iconst 0, 1) := by decide +kernel
theorem dX0_init_37 : decode cX0_init 37 = .ok (.putfield 31, 3) := by decide +kernel
theorem dX0_init_40 : decode cX0_init 40 = .ok (.aload_n 0, 1) := by decide +kernel
theorem dX0_init_41 : decode cX0_init 41 = .ok (.iconst 0, 1) := by decide +kernel
theorem dX0_init_42 : decode cX0_init 42 = .ok (.putfield 34, 3) := by decide +kernel
theorem dX0_init_45 : decode cX0_init 45 = .ok (.aload_n 0, 1) := by decide +kernel
theorem dX0_init_46 : decode cX0_init 46 = .ok (.iload_n 1, 1) := by decide +kernel
theorem dX0_init_47 : decode cX0_init 47 = .ok (.putfield 37, 3) := by decide +kernel
theorem dX0_init_50 : decode cX0_init 50 = .ok (.aload_n 0, 1) := by decide +kernel
theorem dX0_init_51 : decode cX0_init 51 = .ok (.iload_n 2, 1) := by decide +kernel
theorem dX0_init_52 : decode cX0_init 52 = .ok (.putfield 40, 3) := by decide +kernel
theorem dX0_init_55 : decode cX0_init 55 = .ok (.aload_n 0, 1) := by decide +kernel
theorem dX0_init_56 : decode cX0_init 56 = .ok (.iload_n 3, 1) := by decide +kernel
theorem dX0_init_57 : decode cX0_init 57 = .ok (.putfield 43, 3) := by decide +kernel
theorem dX0_init_60 : decode cX0_init 60 = .ok (.aload_n 0, 1) := by decide +kernel
theorem dX0_init_61 : decode cX0_init 61 = .ok (.iload 4, 2) := by decide +kernel
theorem dX0_init_63 : decode cX0_init 63 = .ok (.putfield 46, 3) := by decide +kernel
theorem dX0_init_66 : decode cX0_init 66 = .ok (.return_, 1) := by decide +kernel
theorem dX0_has_0 : decode cX0_has 0 = .ok (.aload_n 0, 1) := by decide +kernel
theorem dX0_has_1 : decode cX0_has 1 = .ok (.getfield 9, 3) := by decide +kernel
theorem dX0_has_4 : decode cX0_has 4 = .ok (.iconst 1, 1) := by decide +kernel
theorem dX0_has_5 : decode cX0_has 5 = .ok (.iload_n 1, 1) := by decide +kernel
theorem dX0_has_6 : decode cX0_has 6 = .ok (.ishl, 1) := by decide +kernel
theorem dX0_has_7 : decode cX0_has 7 = .ok (.iand, 1) := by decide +kernel
theorem dX0_has_8 : decode cX0_has 8 = .ok (.ifCond .eq 7, 3) := by decide +kernel
theorem dX0_has_11 : decode cX0_has 11 = .ok (.iconst 1, 1) := by decide +kernel
theorem dX0_has_12 : decode cX0_has 12 = .ok (.goto 4, 3) := by decide +kernel
theorem dX0_has_15 : decode cX0_has 15 = .ok (.iconst 0, 1) := by decide +kernel
theorem dX0_has_16 : decode cX0_has 16 = .ok (.ireturn, 1) := by decide +kernel
theorem dX0_add_0 : decode cX0_add 0 = .ok (.aload_n 0, 1) := by decide +kernel
theorem dX0_add_1 : decode cX0_add 1 = .ok (.dup, 1) := by decide +kernel
theorem dX0_add_2 : decode cX0_add 2 = .ok (.getfield 9, 3) := by decide +kernel
theorem dX0_add_5 : decode cX0_add 5 = .ok (.iconst 1, 1) := by decide +kernel
theorem dX0_add_6 : decode cX0_add 6 = .ok (.iload_n 1, 1) := by decide +kernel
theorem dX0_add_7 : decode cX0_add 7 = .ok (.ishl, 1) := by decide +kernel
theorem dX0_add_8 : decode cX0_add 8 = .ok (.ior, 1) := by decide +kernel
theorem dX0_add_9 : decode cX0_add 9 = .ok (.putfield 9, 3) := by decide +kernel
theorem dX0_add_12 : decode cX0_add 12 = .ok (.aload_n 0, 1) := by decide +kernel
theorem dX0_add_13 : decode cX0_add 13 = .ok (.dup, 1) := by decide +kernel
theorem dX0_add_14 : decode cX0_add 14 = .ok (.getfield 15, 3) := by decide +kernel
theorem dX0_add_17 : decode cX0_add 17 = .ok (.iload_n 2, 1) := by decide +kernel
theorem dX0_add_18 : decode cX0_add 18 = .ok (.iadd, 1) := by decide +kernel
theorem dX0_add_19 : decode cX0_add 19 = .ok (.putfield 15, 3) := by decide +kernel
theorem dX0_add_22 : decode cX0_add 22 = .ok (.return_, 1) := by decide +kernel
theorem dX0_contradicts_0 : decode cX0_contradicts 0 = .ok (.aload_n 0, 1) := by decide +kernel
theorem dX0_contradicts_1 : decode cX0_contradicts 1 = .ok (.getfield 18, 3) := by decide +kernel
theorem dX0_contradicts_4 : decode cX0_contradicts 4 = .ok (.bipush (-9), 2) := by decide +kernel
theorem dX0_contradicts_6 : decode cX0_contradicts 6 = .ok (.if_icmp .eq 15, 3) := by decide +kernel
theorem dX0_contradicts_9 : decode cX0_contradicts 9 = .ok (.iload_n 1, 1) := by decide +kernel
theorem dX0_contradicts_10 : decode cX0_contradicts 10 = .ok (.aload_n 0, 1) := by decide +kernel
theorem dX0_contradicts_11 : decode cX0_contradicts 11 = .ok (.getfield 18, 3) := by decide +kernel
theorem dX0_contradicts_14 : decode cX0_contradicts 14 = .ok (.if_icmp .le 7, 3) := by decide +kernel
theorem dX0_contradicts_17 : decode cX0_contradicts 17 = .ok (.iconst 1, 1) := by decide +kernel
theorem dX0_contradicts_18 : decode cX0_contradicts 18 = .ok (.goto 4, 3) := by decide +kernel
theorem dX0_contradicts_21 : decode cX0_contradicts 21 = .ok (.iconst 0, 1) := by decide +kernel
theorem dX0_contradicts_22 : decode cX0_contradicts 22 = .ok (.istore_n 3, 1) := by decide +kernel
theorem dX0_contradicts_23 : decode cX0_contradicts 23 = .ok (.iload_n 2, 1) := by decide +kernel
theorem dX0_contradicts_24 : decode cX0_contradicts 24 = .ok (.ifCond .eq 18, 3) := by decide +kernel
theorem dX0_contradicts_27 : decode cX0_contradicts 27 = .ok (.aload_n 0, 1) := by decide +kernel
theorem dX0_contradicts_28 : decode cX0_contradicts 28 = .ok (.getfield 9, 3) := by decide +kernel
theorem dX0_contradicts_31 : decode cX0_contradicts 31 = .ok (.iload_n 1, 1) := by decide +kernel
theorem dX0_contradicts_32 : decode cX0_contradicts 32 = .ok (.iconst 1, 1) := by decide +kernel
theorem dX0_contradicts_33 : decode cX0_contradicts 33 = .ok (.iadd, 1) := by decide +kernel
theorem dX0_contradicts_34 : decode cX0_contradicts 34 = .ok (.ishr, 1) := by decide +kernel
theorem dX0_contradicts_35 : decode cX0_contradicts 35 = .ok (.ifCond .eq 7, 3) := by decide +kernel
theorem dX0_contradicts_38 : decode cX0_contradicts 38 = .ok (.iconst 1, 1) := by decide +kernel
theorem dX0_contradicts_39 : decode cX0_contradicts 39 = .ok (.goto 4, 3) := by decide +kernel
theorem dX0_contradicts_42 : decode cX0_contradicts 42 = .ok (.iconst 0, 1) := by decide +kernel
theorem dX0_contradicts_43 : decode cX0_contradicts 43 = .ok (.istore 4, 2) := by decide +kernel
theorem dX0_contradicts_45 : decode cX0_contradicts 45 = .ok (.iload_n 2, 1) := by decide +kernel
theorem dX0_contradicts_46 : decode cX0_contradicts 46 = .ok (.ifCond .eq 24, 3) := by decide +kernel
theorem dX0_contradicts_49 : decode cX0_contradicts 49 = .ok (.aload_n 0, 1) := by decide +kernel
theorem dX0_contradicts_50 : decode cX0_contradicts 50 = .ok (.getfield 18, 3) := by decide +kernel
theorem dX0_contradicts_53 : decode cX0_contradicts 53 = .ok (.bipush (-9), 2) := by decide +kernel
theorem dX0_contradicts_55 : decode cX0_contradicts 55 = .ok (.if_icmp .eq 15, 3) := by decide +kernel
theorem dX0_contradicts_58 : decode cX0_contradicts 58 = .ok (.aload_n 0, 1) := by decide +kernel
theorem dX0_contradicts_59 : decode cX0_contradicts 59 = .ok (.getfield 18, 3) := by decide +kernel
theorem dX0_contradicts_62 : decode cX0_contradicts 62 = .ok (.iload_n 1, 1) := by decide +kernel
theorem dX0_contradicts_63 : decode cX0_contradicts 63 = .ok (.if_icmp .eq 7, 3) := by decide +kernel
theorem dX0_contradicts_66 : decode cX0_contradicts 66 = .ok (.iconst 1, 1) := by decide +kernel
theorem dX0_contradicts_67 : decode cX0_contradicts 67 = .ok (.goto 4, 3) := by decide +kernel
theorem dX0_contradicts_70 : decode cX0_contradicts 70 = .ok (.iconst 0, 1) := by decide +kernel
theorem dX0_contradicts_71 : decode cX0_contradicts 71 = .ok (.istore 5, 2) := by decide +kernel
theorem dX0_contradicts_73 : decode cX0_contradicts 73 = .ok (.iload_n 3, 1) := by decide +kernel
theorem dX0_contradicts_74 : decode cX0_contradicts 74 = .ok (.ifCond .ne 13, 3) := by decide +kernel
theorem dX0_contradicts_77 : decode cX0_contradicts 77 = .ok (.iload 4, 2) := by decide +kernel
theorem dX0_contradicts_79 : decode cX0_contradicts 79 = .ok (.ifCond .ne 8, 3) := by decide +kernel
theorem dX0_contradicts_82 : decode cX0_contradicts 82 = .ok (.iload 5, 2) := by decide +kernel
theorem dX0_contradicts_84 : decode cX0_contradicts 84 = .ok (.ifCond .eq 7, 3) := by decide +kernel
theorem dX0_contradicts_87 : decode cX0_contradicts 87 = .ok (.iconst 1, 1) := by decide +kernel
theorem dX0_contradicts_88 : decode cX0_contradicts 88 = .ok (.goto 4, 3) := by decide +kernel
theorem dX0_contradicts_91 : decode cX0_contradicts 91 = .ok (.iconst 0, 1) := by decide +kernel
theorem dX0_contradicts_92 : decode cX0_contradicts 92 = .ok (.ireturn, 1) := by decide +kernel
theorem dX0_isWhole_0 : decode cX0_isWhole 0 = .ok (.aload_n 0, 1) := by decide +kernel
theorem dX0_isWhole_1 : decode cX0_isWhole 1 = .ok (.getfield 18, 3) := by decide +kernel
theorem dX0_isWhole_4 : decode cX0_isWhole 4 = .ok (.bipush (-9), 2) := by decide +kernel
theorem dX0_isWhole_6 : decode cX0_isWhole 6 = .ok (.if_icmp .ne 5, 3) := by decide +kernel
theorem dX0_isWhole_9 : decode cX0_isWhole 9 = .ok (.iconst 0, 1) := by decide +kernel
theorem dX0_isWhole_10 : decode cX0_isWhole 10 = .ok (.ireturn, 1) := by decide +kernel
theorem dX0_isWhole_11 : decode cX0_isWhole 11 = .ok (.iconst 2, 1) := by decide +kernel
theorem dX0_isWhole_12 : decode cX0_isWhole 12 = .ok (.aload_n 0, 1) := by decide +kernel
theorem dX0_isWhole_13 : decode cX0_isWhole 13 = .ok (.getfield 18, 3) := by decide +kernel
theorem dX0_isWhole_16 : decode cX0_isWhole 16 = .ok (.ishl, 1) := by decide +kernel
theorem dX0_isWhole_17 : decode cX0_isWhole 17 = .ok (.iconst 1, 1) := by decide +kernel
theorem dX0_isWhole_18 : decode cX0_isWhole 18 = .ok (.isub, 1) := by decide +kernel
theorem dX0_isWhole_19 : decode cX0_isWhole 19 = .ok (.istore_n 1, 1) := by decide +kernel
theorem dX0_isWhole_20 : decode cX0_isWhole 20 = .ok (.aload_n 0, 1) := by decide +kernel
theorem dX0_isWhole_21 : decode cX0_isWhole 21 = .ok (.getfield 9, 3) := by decide +kernel
theorem dX0_isWhole_24 : decode cX0_isWhole 24 = .ok (.iload_n 1, 1) := by decide +kernel
theorem dX0_isWhole_25 : decode cX0_isWhole 25 = .ok (.iand, 1) := by decide +kernel
theorem dX0_isWhole_26 : decode cX0_isWhole 26 = .ok (.iload_n 1, 1) := by decide +kernel
theorem dX0_isWhole_27 : decode cX0_isWhole 27 = .ok (.if_icmp .ne 7, 3) := by decide +kernel
theorem dX0_isWhole_30 : decode cX0_isWhole 30 = .ok (.iconst 1, 1) := by decide +kernel
theorem dX0_isWhole_31 : decode cX0_isWhole 31 = .ok (.goto 4, 3) := by decide +kernel
theorem dX0_isWhole_34 : decode cX0_isWhole 34 = .ok (.iconst 0, 1) := by decide +kernel
theorem dX0_isWhole_35 : decode cX0_isWhole 35 = .ok (.ireturn, 1) := by decide +kernel
theorem dX1_init_0 : decode cX1_init 0 = .ok (.aload_n 0, 1) := by decide +kernel
theorem dX1_init_1 : decode cX1_init 1 = .ok (.invokespecial 1, 3) := by decide +kernel
theorem dX1_init_4 : decode cX1_init 4 = .ok (.aload_n 0, 1) := by decide +kernel
theorem dX1_init_5 : decode cX1_init 5 = .ok (.iconst 4, 1) := by decide +kernel
theorem dX1_init_6 : decode cX1_init 6 = .ok (.newarray .boolean, 2) := by decide +kernel
theorem dX1_init_8 : decode cX1_init 8 = .ok (.putfield 9, 3) := by decide +kernel
theorem dX1_init_11 : decode cX1_init 11 = .ok (.aload_n 0, 1) := by decide +kernel
theorem dX1_init_12 : decode cX1_init 12 = .ok (.getstatic 13, 3) := by decide +kernel
theorem dX1_init_15 : decode cX1_init 15 = .ok (.invokevirtual 17, 3) := by decide +kernel
theorem dX1_init_18 : decode cX1_init 18 = .ok (.checkcast 18, 3) := by decide +kernel
theorem dX1_init_21 : decode cX1_init 21 = .ok (.putfield 22, 3) := by decide +kernel
theorem dX1_init_24 : decode cX1_init 24 = .ok (.aload_n 0, 1) := by decide +kernel
theorem dX1_init_25 : decode cX1_init 25 = .ok (.bipush 13, 2) := by decide +kernel
theorem dX1_init_27 : decode cX1_init 27 = .ok (.newarray .int, 2) := by decide +kernel
theorem dX1_init_29 : decode cX1_init 29 = .ok (.putfield 25, 3) := by decide +kernel
theorem dX1_init_32 : decode cX1_init 32 = .ok (.aload_n 0, 1) := by decide +kernel
theorem dX1_init_33 : decode cX1_init 33 = .ok (.iconst 5, 1) := by decide +kernel
theorem dX1_init_34 : decode cX1_init 34 = .ok (.bipush 7, 2) := by decide +kernel
theorem dX1_init_36 : decode cX1_init 36 = .ok (.multianewarray 28 2, 4) := by decide +kernel
theorem dX1_init_40 : decode cX1_init 40 = .ok (.putfield 30, 3) := by decide +kernel
theorem dX1_init_43 : decode cX1_init 43 = .ok (.aload_n 0, 1) := by decide +kernel
theorem dX1_init_44 : decode cX1_init 44 = .ok (.bipush 14, 2) := by decide +kernel
theorem dX1_init_46 : decode cX1_init 46 = .ok (.newarray .int, 2) := by decide +kernel
theorem dX1_init_48 : decode cX1_init 48 = .ok (.putfield 33, 3) := by decide +kernel
theorem dX1_init_51 : decode cX1_init 51 = .ok (.aload_n 0, 1) := by decide +kernel
theorem dX1_init_52 : decode cX1_init 52 = .ok (.bipush 100, 2) := by decide +kernel
theorem dX1_init_54 : decode cX1_init 54 = .ok (.anewarray 36, 3) := by decide +kernel
theorem dX1_init_57 : decode cX1_init 57 = .ok (.putfield 38, 3) := by decide +kernel
theorem dX1_init_60 : decode cX1_init 60 = .ok (.aload_n 0, 1) := by decide +kernel
theorem dX1_init_61 : decode cX1_init 61 = .ok (.bipush 100, 2) := by decide +kernel
theorem dX1_init_63 : decode cX1_init 63 = .ok (.anewarray 36, 3) := by decide +kernel
theorem dX1_init_66 : decode cX1_init 66 = .ok (.putfield 42, 3) := by decide +kernel
theorem dX1_init_69 : decode cX1_init 69 = .ok (.aload_n 0, 1) := by decide +kernel
theorem dX1_init_70 : decode cX1_init 70 = .ok (.bipush 20, 2) := by decide +kernel
theorem dX1_init_72 : decode cX1_init 72 = .ok (.anewarray 36, 3) := by decide +kernel
theorem dX1_init_75 : decode cX1_init 75 = .ok (.putfield 45, 3) := by decide +kernel
theorem dX1_init_78 : decode cX1_init 78 = .ok (.aload_n 0, 1) := by decide +kernel
theorem dX1_init_79 : decode cX1_init 79 = .ok (.lconst 0, 1) := by decide +kernel
theorem dX1_init_80 : decode cX1_init 80 = .ok (.putfield 48, 3) := by decide +kernel
theorem dX1_init_83 : decode cX1_init 83 = .ok (.iconst 0, 1) := by decide +kernel
theorem dX1_init_84 : decode cX1_init 84 = .ok (.istore_n 1, 1) := by decide +kernel
theorem dX1_init_85 : decode cX1_init 85 = .ok (.iload_n 1, 1) := by decide +kernel
theorem dX1_init_86 : decode cX1_init 86 = .ok (.iconst 4, 1) := by decide +kernel
theorem dX1_init_87 : decode cX1_init 87 = .ok (.if_icmp .ge 16, 3) := by decide +kernel
theorem dX1_init_90 : decode cX1_init 90 = .ok (.aload_n 0, 1) := by decide +kernel
theorem dX1_init_91 : decode cX1_init 91 = .ok (.getfield 9, 3) := by decide +kernel
theorem dX1_init_94 : decode cX1_init 94 = .ok (.iload_n 1, 1) := by decide +kernel
theorem dX1_init_95 : decode cX1_init 95 = .ok (.iconst 1, 1) := by decide +kernel
theorem dX1_init_96 : decode cX1_init 96 = .ok (.bastore, 1) := by decide +kernel
theorem dX1_init_97 : decode cX1_init 97 = .ok (.iinc 1 1, 3) := by decide +kernel
theorem dX1_init_100 : decode cX1_init 100 = .ok (.goto (-15), 3) := by decide +kernel
theorem dX1_init_103 : decode cX1_init 103 = .ok (.aload_n 0, 1) := by decide +kernel
theorem dX1_init_104 : decode cX1_init 104 = .ok (.getfield 25, 3) := by decide +kernel
theorem dX1_init_107 : decode cX1_init 107 = .ok (.bipush 12, 2) := by decide +kernel
theorem dX1_init_109 : decode cX1_init 109 = .ok (.iconst 4, 1) := by decide +kernel
theorem dX1_init_110 : decode cX1_init 110 = .ok (.iastore, 1) := by decide +kernel
theorem dX1_init_111 : decode cX1_init 111 = .ok (.return_, 1) := by decide +kernel
theorem dX1_keeper_0 : decode cX1_keeper 0 = .ok (.iload_n 1, 1) := by decide +kernel
theorem dX1_keeper_1 : decode cX1_keeper 1 = .ok (.iconst 4, 1) := by decide +kernel
theorem dX1_keeper_2 : decode cX1_keeper 2 = .ok (.invokestatic 52, 3) := by decide +kernel
theorem dX1_keeper_5 : decode cX1_keeper 5 = .ok (.ifCond .ne 5, 3) := by decide +kernel
theorem dX1_keeper_8 : decode cX1_keeper 8 = .ok (.iconst (-1), 1) := by decide +kernel
theorem dX1_keeper_9 : decode cX1_keeper 9 = .ok (.ireturn, 1) := by decide +kernel
theorem dX1_keeper_10 : decode cX1_keeper 10 = .ok (.aload_n 0, 1) := by decide +kernel
theorem dX1_keeper_11 : decode cX1_keeper 11 = .ok (.getfield 9, 3) := by decide +kernel
theorem dX1_keeper_14 : decode cX1_keeper 14 = .ok (.iload_n 1, 1) := by decide +kernel
theorem dX1_keeper_15 : decode cX1_keeper 15 = .ok (.baload, 1) := by decide +kernel
theorem dX1_keeper_16 : decode cX1_keeper 16 = .ok (.iload_n 2, 1) := by decide +kernel
theorem dX1_keeper_17 : decode cX1_keeper 17 = .ok (.if_icmp .ne 5, 3) := by decide +kernel
theorem dX1_keeper_20 : decode cX1_keeper 20 = .ok (.iconst 0, 1) := by decide +kernel
theorem dX1_keeper_21 : decode cX1_keeper 21 = .ok (.ireturn, 1) := by decide +kernel
theorem dX1_keeper_22 : decode cX1_keeper 22 = .ok (.aload_n 0, 1) := by decide +kernel
theorem dX1_keeper_23 : decode cX1_keeper 23 = .ok (.getfield 9, 3) := by decide +kernel
theorem dX1_keeper_26 : decode cX1_keeper 26 = .ok (.iload_n 1, 1) := by decide +kernel
theorem dX1_keeper_27 : decode cX1_keeper 27 = .ok (.iload_n 2, 1) := by decide +kernel
theorem dX1_keeper_28 : decode cX1_keeper 28 = .ok (.bastore, 1) := by decide +kernel
theorem dX1_keeper_29 : decode cX1_keeper 29 = .ok (.aload_n 0, 1) := by decide +kernel
theorem dX1_keeper_30 : decode cX1_keeper 30 = .ok (.getfield 25, 3) := by decide +kernel
theorem dX1_keeper_33 : decode cX1_keeper 33 = .ok (.bipush 12, 2) := by decide +kernel
theorem dX1_keeper_35 : decode cX1_keeper 35 = .ok (.dup2, 1) := by decide +kernel
theorem dX1_keeper_36 : decode cX1_keeper 36 = .ok (.iaload, 1) := by decide +kernel
theorem dX1_keeper_37 : decode cX1_keeper 37 = .ok (.iload_n 2, 1) := by decide +kernel
theorem dX1_keeper_38 : decode cX1_keeper 38 = .ok (.ifCond .eq 7, 3) := by decide +kernel
theorem dX1_keeper_41 : decode cX1_keeper 41 = .ok (.iconst 1, 1) := by decide +kernel
theorem dX1_keeper_42 : decode cX1_keeper 42 = .ok (.goto 4, 3) := by decide +kernel
theorem dX1_keeper_45 : decode cX1_keeper 45 = .ok (.iconst (-1), 1) := by decide +kernel
theorem dX1_keeper_46 : decode cX1_keeper 46 = .ok (.iadd, 1) := by decide +kernel
theorem dX1_keeper_47 : decode cX1_keeper 47 = .ok (.iastore, 1) := by decide +kernel
theorem dX1_keeper_48 : decode cX1_keeper 48 = .ok (.iload_n 2, 1) := by decide +kernel
theorem dX1_keeper_49 : decode cX1_keeper 49 = .ok (.ifCond .ne 8, 3) := by decide +kernel
theorem dX1_keeper_52 : decode cX1_keeper 52 = .ok (.aload_n 0, 1) := by decide +kernel
theorem dX1_keeper_53 : decode cX1_keeper 53 = .ok (.iload_n 1, 1) := by decide +kernel
theorem dX1_keeper_54 : decode cX1_keeper 54 = .ok (.invokevirtual 56, 3) := by decide +kernel
theorem dX1_keeper_57 : decode cX1_keeper 57 = .ok (.aload_n 0, 1) := by decide +kernel
theorem dX1_keeper_58 : decode cX1_keeper 58 = .ok (.invokevirtual 60, 3) := by decide +kernel
theorem dX1_keeper_61 : decode cX1_keeper 61 = .ok (.iconst 1, 1) := by decide +kernel
theorem dX1_keeper_62 : decode cX1_keeper 62 = .ok (.ireturn, 1) := by decide +kernel
theorem dX1_home_0 : decode cX1_home 0 = .ok (.iload_n 1, 1) := by decide +kernel
theorem dX1_home_1 : decode cX1_home 1 = .ok (.bipush 100, 2) := by decide +kernel
theorem dX1_home_3 : decode cX1_home 3 = .ok (.invokestatic 52, 3) := by decide +kernel
theorem dX1_home_6 : decode cX1_home 6 = .ok (.ifCond .eq 11, 3) := by decide +kernel
theorem dX1_home_9 : decode cX1_home 9 = .ok (.aload_n 0, 1) := by decide +kernel
theorem dX1_home_10 : decode cX1_home 10 = .ok (.iload_n 1, 1) := by decide +kernel
theorem dX1_home_11 : decode cX1_home 11 = .ok (.invokevirtual 63, 3) := by decide +kernel
theorem dX1_home_14 : decode cX1_home 14 = .ok (.goto 4, 3) := by decide +kernel
theorem dX1_home_17 : decode cX1_home 17 = .ok (.iconst (-1), 1) := by decide +kernel
theorem dX1_home_18 : decode cX1_home 18 = .ok (.ireturn, 1) := by decide +kernel
theorem dX1_set_0 : decode cX1_set 0 = .ok (.iload_n 1, 1) := by decide +kernel
theorem dX1_set_1 : decode cX1_set 1 = .ok (.bipush 6, 2) := by decide +kernel
theorem dX1_set_3 : decode cX1_set 3 = .ok (.invokestatic 52, 3) := by decide +kernel
theorem dX1_set_6 : decode cX1_set 6 = .ok (.ifCond .eq 20, 3) := by decide +kernel
theorem dX1_set_9 : decode cX1_set 9 = .ok (.iload_n 2, 1) := by decide +kernel
theorem dX1_set_10 : decode cX1_set 10 = .ok (.getstatic 67, 3) := by decide +kernel
theorem dX1_set_13 : decode cX1_set 13 = .ok (.iload_n 1, 1) := by decide +kernel
theorem dX1_set_14 : decode cX1_set 14 = .ok (.iaload, 1) := by decide +kernel
theorem dX1_set_15 : decode cX1_set 15 = .ok (.getstatic 70, 3) := by decide +kernel
theorem dX1_set_18 : decode cX1_set 18 = .ok (.iload_n 1, 1) := by decide +kernel
theorem dX1_set_19 : decode cX1_set 19 = .ok (.iaload, 1) := by decide +kernel
theorem dX1_set_20 : decode cX1_set 20 = .ok (.invokestatic 73, 3) := by decide +kernel
theorem dX1_set_23 : decode cX1_set 23 = .ok (.ifCond .ne 5, 3) := by decide +kernel
theorem dX1_set_26 : decode cX1_set 26 = .ok (.iconst (-1), 1) := by decide +kernel
theorem dX1_set_27 : decode cX1_set 27 = .ok (.ireturn, 1) := by decide +kernel
theorem dX1_set_28 : decode cX1_set 28 = .ok (.aload_n 0, 1) := by decide +kernel
theorem dX1_set_29 : decode cX1_set 29 = .ok (.getfield 22, 3) := by decide +kernel
theorem dX1_set_32 : decode cX1_set 32 = .ok (.iload_n 1, 1) := by decide +kernel
theorem dX1_set_33 : decode cX1_set 33 = .ok (.iaload, 1) := by decide +kernel
theorem dX1_set_34 : decode cX1_set 34 = .ok (.istore_n 3, 1) := by decide +kernel
theorem dX1_set_35 : decode cX1_set 35 = .ok (.iload_n 1, 1) := by decide +kernel
theorem dX1_set_36 : decode cX1_set 36 = .ok (.ifCond .ne 12, 3) := by decide +kernel
theorem dX1_set_39 : decode cX1_set 39 = .ok (.iload_n 2, 1) := by decide +kernel
theorem dX1_set_40 : decode cX1_set 40 = .ok (.iload_n 3, 1) := by decide +kernel
theorem dX1_set_41 : decode cX1_set 41 = .ok (.if_icmp .eq 7, 3) := by decide +kernel
theorem dX1_set_44 : decode cX1_set 44 = .ok (.aload_n 0, 1) := by decide +kernel
theorem dX1_set_45 : decode cX1_set 45 = .ok (.invokevirtual 77, 3) := by decide +kernel
theorem dX1_set_48 : decode cX1_set 48 = .ok (.aload_n 0, 1) := by decide +kernel
theorem dX1_set_49 : decode cX1_set 49 = .ok (.getfield 22, 3) := by decide +kernel
theorem dX1_set_52 : decode cX1_set 52 = .ok (.iload_n 1, 1) := by decide +kernel
theorem dX1_set_53 : decode cX1_set 53 = .ok (.iload_n 2, 1) := by decide +kernel
theorem dX1_set_54 : decode cX1_set 54 = .ok (.iastore, 1) := by decide +kernel
theorem dX1_set_55 : decode cX1_set 55 = .ok (.iload_n 3, 1) := by decide +kernel
theorem dX1_set_56 : decode cX1_set 56 = .ok (.ireturn, 1) := by decide +kernel
theorem dX1_piece_0 : decode cX1_piece 0 = .ok (.iload_n 1, 1) := by decide +kernel
theorem dX1_piece_1 : decode cX1_piece 1 = .ok (.bipush 100, 2) := by decide +kernel
theorem dX1_piece_3 : decode cX1_piece 3 = .ok (.invokestatic 52, 3) := by decide +kernel
theorem dX1_piece_6 : decode cX1_piece 6 = .ok (.ifCond .eq 33, 3) := by decide +kernel
theorem dX1_piece_9 : decode cX1_piece 9 = .ok (.iload_n 2, 1) := by decide +kernel
theorem dX1_piece_10 : decode cX1_piece 10 = .ok (.bipush 8, 2) := by decide +kernel
theorem dX1_piece_12 : decode cX1_piece 12 = .ok (.invokestatic 52, 3) := by decide +kernel
theorem dX1_piece_15 : decode cX1_piece 15 = .ok (.ifCond .eq 24, 3) := by decide +kernel
theorem dX1_piece_18 : decode cX1_piece 18 = .ok (.iload 4, 2) := by decide +kernel
theorem dX1_piece_20 : decode cX1_piece 20 = .ok (.iconst 5, 1) := by decide +kernel
theorem dX1_piece_21 : decode cX1_piece 21 = .ok (.invokestatic 52, 3) := by decide +kernel
theorem dX1_piece_24 : decode cX1_piece 24 = .ok (.ifCond .eq 15, 3) := by decide +kernel
theorem dX1_piece_27 : decode cX1_piece 27 = .ok (.iload 5, 2) := by decide +kernel
theorem dX1_piece_29 : decode cX1_piece 29 = .ok (.iconst 1, 1) := by decide +kernel
theorem dX1_piece_30 : decode cX1_piece 30 = .ok (.sipush 1000, 3) := by decide +kernel
theorem dX1_piece_33 : decode cX1_piece 33 = .ok (.invokestatic 73, 3) := by decide +kernel
theorem dX1_piece_36 : decode cX1_piece 36 = .ok (.ifCond .ne 5, 3) := by decide +kernel
theorem dX1_piece_39 : decode cX1_piece 39 = .ok (.iconst (-1), 1) := by decide +kernel
theorem dX1_piece_40 : decode cX1_piece 40 = .ok (.ireturn, 1) := by decide +kernel
theorem dX1_piece_41 : decode cX1_piece 41 = .ok (.aload_n 0, 1) := by decide +kernel
theorem dX1_piece_42 : decode cX1_piece 42 = .ok (.iload_n 1, 1) := by decide +kernel
theorem dX1_piece_43 : decode cX1_piece 43 = .ok (.invokevirtual 63, 3) := by decide +kernel
theorem dX1_piece_46 : decode cX1_piece 46 = .ok (.istore 6, 2) := by decide +kernel
theorem dX1_piece_48 : decode cX1_piece 48 = .ok (.iload 6, 2) := by decide +kernel
theorem dX1_piece_50 : decode cX1_piece 50 = .ok (.bipush (-9), 2) := by decide +kernel
theorem dX1_piece_52 : decode cX1_piece 52 = .ok (.if_icmp .ne 12, 3) := by decide +kernel
theorem dX1_piece_55 : decode cX1_piece 55 = .ok (.aload_n 0, 1) := by decide +kernel
theorem dX1_piece_56 : decode cX1_piece 56 = .ok (.bipush 9, 2) := by decide +kernel
theorem dX1_piece_58 : decode cX1_piece 58 = .ok (.bipush 7, 2) := by decide +kernel
theorem dX1_piece_60 : decode cX1_piece 60 = .ok (.invokevirtual 80, 3) := by decide +kernel
theorem dX1_piece_63 : decode cX1_piece 63 = .ok (.ireturn, 1) := by decide +kernel
theorem dX1_piece_64 : decode cX1_piece 64 = .ok (.aload_n 0, 1) := by decide +kernel
theorem dX1_piece_65 : decode cX1_piece 65 = .ok (.getfield 38, 3) := by decide +kernel
theorem dX1_piece_68 : decode cX1_piece 68 = .ok (.iload_n 1, 1) := by decide +kernel
theorem dX1_piece_69 : decode cX1_piece 69 = .ok (.aaload, 1) := by decide +kernel
theorem dX1_piece_70 : decode cX1_piece 70 = .ok (.astore 7, 2) := by decide +kernel
theorem dX1_piece_72 : decode cX1_piece 72 = .ok (.aload 7, 2) := by decide +kernel
theorem dX1_piece_74 : decode cX1_piece 74 = .ok (.ifnull 14, 3) := by decide +kernel
theorem dX1_piece_77 : decode cX1_piece 77 = .ok (.aload_n 0, 1) := by decide +kernel
theorem dX1_piece_78 : decode cX1_piece 78 = .ok (.aload 7, 2) := by decide +kernel
theorem dX1_piece_80 : decode cX1_piece 80 = .ok (.iload_n 2, 1) := by decide +kernel
theorem dX1_piece_81 : decode cX1_piece 81 = .ok (.iload_n 3, 1) := by decide +kernel
theorem dX1_piece_82 : decode cX1_piece 82 = .ok (.iload 5, 2) := by decide +kernel
theorem dX1_piece_84 : decode cX1_piece 84 = .ok (.invokevirtual 84, 3) := by decide +kernel
theorem dX1_piece_87 : decode cX1_piece 87 = .ok (.ireturn, 1) := by decide +kernel
theorem dX1_piece_88 : decode cX1_piece 88 = .ok (.aload_n 0, 1) := by decide +kernel
theorem dX1_piece_89 : decode cX1_piece 89 = .ok (.iload_n 1, 1) := by decide +kernel
theorem dX1_piece_90 : decode cX1_piece 90 = .ok (.invokevirtual 88, 3) := by decide +kernel
theorem dX1_piece_93 : decode cX1_piece 93 = .ok (.astore 8, 2) := by decide +kernel
theorem dX1_piece_95 : decode cX1_piece 95 = .ok (.aload 8, 2) := by decide +kernel
theorem dX1_piece_97 : decode cX1_piece 97 = .ok (.ifnull 13, 3) := by decide +kernel
theorem dX1_piece_100 : decode cX1_piece 100 = .ok (.aload_n 0, 1) := by decide +kernel
theorem dX1_piece_101 : decode cX1_piece 101 = .ok (.aload 8, 2) := by decide +kernel
theorem dX1_piece_103 : decode cX1_piece 103 = .ok (.iload_n 2, 1) := by decide +kernel
theorem dX1_piece_104 : decode cX1_piece 104 = .ok (.iload 5, 2) := by decide +kernel
theorem dX1_piece_106 : decode cX1_piece 106 = .ok (.invokevirtual 92, 3) := by decide +kernel
theorem dX1_piece_109 : decode cX1_piece 109 = .ok (.ireturn, 1) := by decide +kernel
theorem dX1_piece_110 : decode cX1_piece 110 = .ok (.aload_n 0, 1) := by decide +kernel
theorem dX1_piece_111 : decode cX1_piece 111 = .ok (.getfield 25, 3) := by decide +kernel
theorem dX1_piece_114 : decode cX1_piece 114 = .ok (.iconst 1, 1) := by decide +kernel
theorem dX1_piece_115 : decode cX1_piece 115 = .ok (.iaload, 1) := by decide +kernel
theorem dX1_piece_116 : decode cX1_piece 116 = .ok (.bipush 24, 2) := by decide +kernel
theorem dX1_piece_118 : decode cX1_piece 118 = .ok (.if_icmp .lt 12, 3) := by decide +kernel
theorem dX1_piece_121 : decode cX1_piece 121 = .ok (.aload_n 0, 1) := by decide +kernel
theorem dX1_piece_122 : decode cX1_piece 122 = .ok (.bipush 9, 2) := by decide +kernel
theorem dX1_piece_124 : decode cX1_piece 124 = .ok (.bipush 7, 2) := by decide +kernel
theorem dX1_piece_126 : decode cX1_piece 126 = .ok (.invokevirtual 80, 3) := by decide +kernel
theorem dX1_piece_129 : decode cX1_piece 129 = .ok (.ireturn, 1) := by decide +kernel
theorem dX1_piece_130 : decode cX1_piece 130 = .ok (.new 36, 3) := by decide +kernel
theorem dX1_piece_133 : decode cX1_piece 133 = .ok (.dup, 1) := by decide +kernel
theorem dX1_piece_134 : decode cX1_piece 134 = .ok (.iload_n 1, 1) := by decide +kernel
theorem dX1_piece_135 : decode cX1_piece 135 = .ok (.iload 4, 2) := by decide +kernel
theorem dX1_piece_137 : decode cX1_piece 137 = .ok (.iload 6, 2) := by decide +kernel
theorem dX1_piece_139 : decode cX1_piece 139 = .ok (.aload_n 0, 1) := by decide +kernel
theorem dX1_piece_140 : decode cX1_piece 140 = .ok (.getfield 25, 3) := by decide +kernel
theorem dX1_piece_143 : decode cX1_piece 143 = .ok (.iconst 0, 1) := by decide +kernel
theorem dX1_piece_144 : decode cX1_piece 144 = .ok (.iaload, 1) := by decide +kernel
theorem dX1_piece_145 : decode cX1_piece 145 = .ok (.invokespecial 96, 3) := by decide +kernel
theorem dX1_piece_148 : decode cX1_piece 148 = .ok (.astore 9, 2) := by decide +kernel
theorem dX1_piece_150 : decode cX1_piece 150 = .ok (.aload_n 0, 1) := by decide +kernel
theorem dX1_piece_151 : decode cX1_piece 151 = .ok (.getfield 38, 3) := by decide +kernel
theorem dX1_piece_154 : decode cX1_piece 154 = .ok (.iload_n 1, 1) := by decide +kernel
theorem dX1_piece_155 : decode cX1_piece 155 = .ok (.aload 9, 2) := by decide +kernel
theorem dX1_piece_157 : decode cX1_piece 157 = .ok (.aastore, 1) := by decide +kernel
theorem dX1_piece_158 : decode cX1_piece 158 = .ok (.aload_n 0, 1) := by decide +kernel
theorem dX1_piece_159 : decode cX1_piece 159 = .ok (.getfield 25, 3) := by decide +kernel
theorem dX1_piece_162 : decode cX1_piece 162 = .ok (.iconst 1, 1) := by decide +kernel
theorem dX1_piece_163 : decode cX1_piece 163 = .ok (.dup2, 1) := by decide +kernel
theorem dX1_piece_164 : decode cX1_piece 164 = .ok (.iaload, 1) := by decide +kernel
theorem dX1_piece_165 : decode cX1_piece 165 = .ok (.iconst 1, 1) := by decide +kernel
theorem dX1_piece_166 : decode cX1_piece 166 = .ok (.iadd, 1) := by decide +kernel
theorem dX1_piece_167 : decode cX1_piece 167 = .ok (.iastore, 1) := by decide +kernel
theorem dX1_piece_168 : decode cX1_piece 168 = .ok (.aload_n 0, 1) := by decide +kernel
theorem dX1_piece_169 : decode cX1_piece 169 = .ok (.aload 9, 2) := by decide +kernel
theorem dX1_piece_171 : decode cX1_piece 171 = .ok (.iload_n 2, 1) := by decide +kernel
theorem dX1_piece_172 : decode cX1_piece 172 = .ok (.iload_n 3, 1) := by decide +kernel
theorem dX1_piece_173 : decode cX1_piece 173 = .ok (.iload 5, 2) := by decide +kernel
theorem dX1_piece_175 : decode cX1_piece 175 = .ok (.invokevirtual 99, 3) := by decide +kernel
theorem dX1_piece_178 : decode cX1_piece 178 = .ok (.ireturn, 1) := by decide +kernel
theorem dX1_tick_0 : decode cX1_tick 0 = .ok (.iload_n 1, 1) := by decide +kernel
theorem dX1_tick_1 : decode cX1_tick 1 = .ok (.iconst 1, 1) := by decide +kernel
theorem dX1_tick_2 : decode cX1_tick 2 = .ok (.bipush 60, 2) := by decide +kernel
theorem dX1_tick_4 : decode cX1_tick 4 = .ok (.invokestatic 73, 3) := by decide +kernel
theorem dX1_tick_7 : decode cX1_tick 7 = .ok (.ifCond .ne 5, 3) := by decide +kernel
theorem dX1_tick_10 : decode cX1_tick 10 = .ok (.iconst (-1), 1) := by decide +kernel
theorem dX1_tick_11 : decode cX1_tick 11 = .ok (.ireturn, 1) := by decide +kernel
theorem dX1_tick_12 : decode cX1_tick 12 = .ok (.aload_n 0, 1) := by decide +kernel
theorem dX1_tick_13 : decode cX1_tick 13 = .ok (.getfield 25, 3) := by decide +kernel
theorem dX1_tick_16 : decode cX1_tick 16 = .ok (.bipush 10, 2) := by decide +kernel
theorem dX1_tick_18 : decode cX1_tick 18 = .ok (.iaload, 1) := by decide +kernel
theorem dX1_tick_19 : decode cX1_tick 19 = .ok (.istore_n 2, 1) := by decide +kernel
theorem dX1_tick_20 : decode cX1_tick 20 = .ok (.iconst 0, 1) := by decide +kernel
theorem dX1_tick_21 : decode cX1_tick 21 = .ok (.istore_n 3, 1) := by decide +kernel
theorem dX1_tick_22 : decode cX1_tick 22 = .ok (.iload_n 3, 1) := by decide +kernel
theorem dX1_tick_23 : decode cX1_tick 23 = .ok (.iload_n 1, 1) := by decide +kernel
theorem dX1_tick_24 : decode cX1_tick 24 = .ok (.if_icmp .ge 13, 3) := by decide +kernel
theorem dX1_tick_27 : decode cX1_tick 27 = .ok (.aload_n 0, 1) := by decide +kernel
theorem dX1_tick_28 : decode cX1_tick 28 = .ok (.invokevirtual 102, 3) := by decide +kernel
theorem dX1_tick_31 : decode cX1_tick 31 = .ok (.iinc 3 1, 3) := by decide +kernel
theorem dX1_tick_34 : decode cX1_tick 34 = .ok (.goto (-12), 3) := by decide +kernel
theorem dX1_tick_37 : decode cX1_tick 37 = .ok (.aload_n 0, 1) := by decide +kernel
theorem dX1_tick_38 : decode cX1_tick 38 = .ok (.getfield 25, 3) := by decide +kernel
theorem dX1_tick_41 : decode cX1_tick 41 = .ok (.bipush 10, 2) := by decide +kernel
theorem dX1_tick_43 : decode cX1_tick 43 = .ok (.iaload, 1) := by decide +kernel
theorem dX1_tick_44 : decode cX1_tick 44 = .ok (.iload_n 2, 1) := by decide +kernel
theorem dX1_tick_45 : decode cX1_tick 45 = .ok (.isub, 1) := by decide +kernel
theorem dX1_tick_46 : decode cX1_tick 46 = .ok (.ireturn, 1) := by decide +kernel
theorem dX1_waits_0 : decode cX1_waits 0 = .ok (.iload_n 1, 1) := by decide +kernel
theorem dX1_waits_1 : decode cX1_waits 1 = .ok (.bipush 100, 2) := by decide +kernel
theorem dX1_waits_3 : decode cX1_waits 3 = .ok (.invokestatic 52, 3) := by decide +kernel
theorem dX1_waits_6 : decode cX1_waits 6 = .ok (.ifCond .eq 12, 3) := by decide +kernel
theorem dX1_waits_9 : decode cX1_waits 9 = .ok (.iload_n 2, 1) := by decide +kernel
theorem dX1_waits_10 : decode cX1_waits 10 = .ok (.bipush 6, 2) := by decide +kernel
theorem dX1_waits_12 : decode cX1_waits 12 = .ok (.invokestatic 52, 3) := by decide +kernel
theorem dX1_waits_15 : decode cX1_waits 15 = .ok (.ifCond .ne 5, 3) := by decide +kernel
theorem dX1_waits_18 : decode cX1_waits 18 = .ok (.iconst (-1), 1) := by decide +kernel
theorem dX1_waits_19 : decode cX1_waits 19 = .ok (.ireturn, 1) := by decide +kernel
theorem dX1_waits_20 : decode cX1_waits 20 = .ok (.aload_n 0, 1) := by decide +kernel
theorem dX1_waits_21 : decode cX1_waits 21 = .ok (.getfield 38, 3) := by decide +kernel
theorem dX1_waits_24 : decode cX1_waits 24 = .ok (.iload_n 1, 1) := by decide +kernel
theorem dX1_waits_25 : decode cX1_waits 25 = .ok (.aaload, 1) := by decide +kernel
theorem dX1_waits_26 : decode cX1_waits 26 = .ok (.astore_n 3, 1) := by decide +kernel
theorem dX1_waits_27 : decode cX1_waits 27 = .ok (.aload_n 3, 1) := by decide +kernel
theorem dX1_waits_28 : decode cX1_waits 28 = .ok (.ifnonnull 6, 3) := by decide +kernel
theorem dX1_waits_31 : decode cX1_waits 31 = .ok (.bipush (-9), 2) := by decide +kernel
theorem dX1_waits_33 : decode cX1_waits 33 = .ok (.ireturn, 1) := by decide +kernel
theorem dX1_waits_34 : decode cX1_waits 34 = .ok (.iload_n 2, 1) := by decide +kernel
theorem dX1_waits_35 : decode cX1_waits 35 = .ok (.tableswitch 58 0 4 #[33, 38, 43, 48, 53], 33) := by decide +kernel
theorem dX1_waits_68 : decode cX1_waits 68 = .ok (.aload_n 3, 1) := by decide +kernel
theorem dX1_waits_69 : decode cX1_waits 69 = .ok (.getfield 105, 3) := by decide +kernel
theorem dX1_waits_72 : decode cX1_waits 72 = .ok (.ireturn, 1) := by decide +kernel
theorem dX1_waits_73 : decode cX1_waits 73 = .ok (.aload_n 3, 1) := by decide +kernel
end
section
theorem dX1_waits_74 : decode cX1_waits 74 = .ok (.getfield 109, 3) := by decide +kernel
theorem dX1_waits_77 : decode cX1_waits 77 = .ok (.ireturn, 1) := by decide +kernel
theorem dX1_waits_78 : decode cX1_waits 78 = .ok (.aload_n 3, 1) := by decide +kernel
theorem dX1_waits_79 : decode cX1_waits 79 = .ok (.getfield 112, 3) := by decide +kernel
theorem dX1_waits_82 : decode cX1_waits 82 = .ok (.ireturn, 1) := by decide +kernel
theorem dX1_waits_83 : decode cX1_waits 83 = .ok (.aload_n 3, 1) := by decide +kernel
theorem dX1_waits_84 : decode cX1_waits 84 = .ok (.getfield 115, 3) := by decide +kernel
theorem dX1_waits_87 : decode cX1_waits 87 = .ok (.ireturn, 1) := by decide +kernel
theorem dX1_waits_88 : decode cX1_waits 88 = .ok (.aload_n 3, 1) := by decide +kernel
theorem dX1_waits_89 : decode cX1_waits 89 = .ok (.getfield 118, 3) := by decide +kernel
theorem dX1_waits_92 : decode cX1_waits 92 = .ok (.ireturn, 1) := by decide +kernel
theorem dX1_waits_93 : decode cX1_waits 93 = .ok (.aload_n 0, 1) := by decide +kernel
theorem dX1_waits_94 : decode cX1_waits 94 = .ok (.getfield 25, 3) := by decide +kernel
theorem dX1_waits_97 : decode cX1_waits 97 = .ok (.iconst 0, 1) := by decide +kernel
theorem dX1_waits_98 : decode cX1_waits 98 = .ok (.iaload, 1) := by decide +kernel
theorem dX1_waits_99 : decode cX1_waits 99 = .ok (.aload_n 3, 1) := by decide +kernel
theorem dX1_waits_100 : decode cX1_waits 100 = .ok (.getfield 121, 3) := by decide +kernel
theorem dX1_waits_103 : decode cX1_waits 103 = .ok (.isub, 1) := by decide +kernel
theorem dX1_waits_104 : decode cX1_waits 104 = .ok (.ireturn, 1) := by decide +kernel
theorem dX1_remembered_0 : decode cX1_remembered 0 = .ok (.iload_n 1, 1) := by decide +kernel
theorem dX1_remembered_1 : decode cX1_remembered 1 = .ok (.bipush 100, 2) := by decide +kernel
theorem dX1_remembered_3 : decode cX1_remembered 3 = .ok (.invokestatic 52, 3) := by decide +kernel
theorem dX1_remembered_6 : decode cX1_remembered 6 = .ok (.ifCond .ne 5, 3) := by decide +kernel
theorem dX1_remembered_9 : decode cX1_remembered 9 = .ok (.iconst (-1), 1) := by decide +kernel
theorem dX1_remembered_10 : decode cX1_remembered 10 = .ok (.ireturn, 1) := by decide +kernel
theorem dX1_remembered_11 : decode cX1_remembered 11 = .ok (.aload_n 0, 1) := by decide +kernel
theorem dX1_remembered_12 : decode cX1_remembered 12 = .ok (.iload_n 1, 1) := by decide +kernel
theorem dX1_remembered_13 : decode cX1_remembered 13 = .ok (.invokevirtual 88, 3) := by decide +kernel
theorem dX1_remembered_16 : decode cX1_remembered 16 = .ok (.astore_n 2, 1) := by decide +kernel
theorem dX1_remembered_17 : decode cX1_remembered 17 = .ok (.aload_n 2, 1) := by decide +kernel
theorem dX1_remembered_18 : decode cX1_remembered 18 = .ok (.ifnonnull 6, 3) := by decide +kernel
theorem dX1_remembered_21 : decode cX1_remembered 21 = .ok (.bipush (-9), 2) := by decide +kernel
theorem dX1_remembered_23 : decode cX1_remembered 23 = .ok (.ireturn, 1) := by decide +kernel
theorem dX1_remembered_24 : decode cX1_remembered 24 = .ok (.aload_n 2, 1) := by decide +kernel
theorem dX1_remembered_25 : decode cX1_remembered 25 = .ok (.getfield 124, 3) := by decide +kernel
theorem dX1_remembered_28 : decode cX1_remembered 28 = .ok (.ifCond .eq 7, 3) := by decide +kernel
theorem dX1_remembered_31 : decode cX1_remembered 31 = .ok (.iconst 1, 1) := by decide +kernel
theorem dX1_remembered_32 : decode cX1_remembered 32 = .ok (.goto 4, 3) := by decide +kernel
theorem dX1_remembered_35 : decode cX1_remembered 35 = .ok (.iconst 0, 1) := by decide +kernel
theorem dX1_remembered_36 : decode cX1_remembered 36 = .ok (.ireturn, 1) := by decide +kernel
theorem dX1_kept_0 : decode cX1_kept 0 = .ok (.aload_n 0, 1) := by decide +kernel
theorem dX1_kept_1 : decode cX1_kept 1 = .ok (.iload_n 1, 1) := by decide +kernel
theorem dX1_kept_2 : decode cX1_kept 2 = .ok (.invokevirtual 128, 3) := by decide +kernel
theorem dX1_kept_5 : decode cX1_kept 5 = .ok (.astore_n 3, 1) := by decide +kernel
theorem dX1_kept_6 : decode cX1_kept 6 = .ok (.aload_n 3, 1) := by decide +kernel
theorem dX1_kept_7 : decode cX1_kept 7 = .ok (.ifnull 12, 3) := by decide +kernel
theorem dX1_kept_10 : decode cX1_kept 10 = .ok (.iload_n 2, 1) := by decide +kernel
theorem dX1_kept_11 : decode cX1_kept 11 = .ok (.bipush 7, 2) := by decide +kernel
theorem dX1_kept_13 : decode cX1_kept 13 = .ok (.invokestatic 52, 3) := by decide +kernel
theorem dX1_kept_16 : decode cX1_kept 16 = .ok (.ifCond .ne 5, 3) := by decide +kernel
theorem dX1_kept_19 : decode cX1_kept 19 = .ok (.iconst (-1), 1) := by decide +kernel
theorem dX1_kept_20 : decode cX1_kept 20 = .ok (.ireturn, 1) := by decide +kernel
theorem dX1_kept_21 : decode cX1_kept 21 = .ok (.iload_n 2, 1) := by decide +kernel
theorem dX1_kept_22 : decode cX1_kept 22 = .ok (.tableswitch 76 0 5 #[38, 43, 48, 53, 58, 63], 38) := by decide +kernel
theorem dX1_kept_60 : decode cX1_kept 60 = .ok (.aload_n 3, 1) := by decide +kernel
theorem dX1_kept_61 : decode cX1_kept 61 = .ok (.getfield 131, 3) := by decide +kernel
theorem dX1_kept_64 : decode cX1_kept 64 = .ok (.ireturn, 1) := by decide +kernel
theorem dX1_kept_65 : decode cX1_kept 65 = .ok (.aload_n 3, 1) := by decide +kernel
theorem dX1_kept_66 : decode cX1_kept 66 = .ok (.getfield 109, 3) := by decide +kernel
theorem dX1_kept_69 : decode cX1_kept 69 = .ok (.ireturn, 1) := by decide +kernel
theorem dX1_kept_70 : decode cX1_kept 70 = .ok (.aload_n 3, 1) := by decide +kernel
theorem dX1_kept_71 : decode cX1_kept 71 = .ok (.getfield 112, 3) := by decide +kernel
theorem dX1_kept_74 : decode cX1_kept 74 = .ok (.ireturn, 1) := by decide +kernel
theorem dX1_kept_75 : decode cX1_kept 75 = .ok (.aload_n 3, 1) := by decide +kernel
theorem dX1_kept_76 : decode cX1_kept 76 = .ok (.getfield 115, 3) := by decide +kernel
theorem dX1_kept_79 : decode cX1_kept 79 = .ok (.ireturn, 1) := by decide +kernel
theorem dX1_kept_80 : decode cX1_kept 80 = .ok (.aload_n 3, 1) := by decide +kernel
theorem dX1_kept_81 : decode cX1_kept 81 = .ok (.getfield 134, 3) := by decide +kernel
theorem dX1_kept_84 : decode cX1_kept 84 = .ok (.ireturn, 1) := by decide +kernel
theorem dX1_kept_85 : decode cX1_kept 85 = .ok (.aload_n 3, 1) := by decide +kernel
theorem dX1_kept_86 : decode cX1_kept 86 = .ok (.getfield 137, 3) := by decide +kernel
theorem dX1_kept_89 : decode cX1_kept 89 = .ok (.ifCond .eq 7, 3) := by decide +kernel
theorem dX1_kept_92 : decode cX1_kept 92 = .ok (.iconst 1, 1) := by decide +kernel
theorem dX1_kept_93 : decode cX1_kept 93 = .ok (.goto 4, 3) := by decide +kernel
theorem dX1_kept_96 : decode cX1_kept 96 = .ok (.iconst 0, 1) := by decide +kernel
theorem dX1_kept_97 : decode cX1_kept 97 = .ok (.ireturn, 1) := by decide +kernel
theorem dX1_kept_98 : decode cX1_kept 98 = .ok (.aload_n 3, 1) := by decide +kernel
theorem dX1_kept_99 : decode cX1_kept 99 = .ok (.getfield 140, 3) := by decide +kernel
theorem dX1_kept_102 : decode cX1_kept 102 = .ok (.ireturn, 1) := by decide +kernel
theorem dX1_take_0 : decode cX1_take 0 = .ok (.aload_n 0, 1) := by decide +kernel
theorem dX1_take_1 : decode cX1_take 1 = .ok (.iload_n 1, 1) := by decide +kernel
theorem dX1_take_2 : decode cX1_take 2 = .ok (.invokevirtual 128, 3) := by decide +kernel
theorem dX1_take_5 : decode cX1_take 5 = .ok (.astore_n 2, 1) := by decide +kernel
theorem dX1_take_6 : decode cX1_take 6 = .ok (.aload_n 2, 1) := by decide +kernel
theorem dX1_take_7 : decode cX1_take 7 = .ok (.ifnonnull 5, 3) := by decide +kernel
theorem dX1_take_10 : decode cX1_take 10 = .ok (.iconst (-1), 1) := by decide +kernel
theorem dX1_take_11 : decode cX1_take 11 = .ok (.ireturn, 1) := by decide +kernel
theorem dX1_take_12 : decode cX1_take 12 = .ok (.aload_n 0, 1) := by decide +kernel
theorem dX1_take_13 : decode cX1_take 13 = .ok (.iload_n 1, 1) := by decide +kernel
theorem dX1_take_14 : decode cX1_take 14 = .ok (.invokevirtual 143, 3) := by decide +kernel
theorem dX1_take_17 : decode cX1_take 17 = .ok (.aload_n 2, 1) := by decide +kernel
theorem dX1_take_18 : decode cX1_take 18 = .ok (.iconst 0, 1) := by decide +kernel
theorem dX1_take_19 : decode cX1_take 19 = .ok (.putfield 124, 3) := by decide +kernel
theorem dX1_take_22 : decode cX1_take 22 = .ok (.aload_n 2, 1) := by decide +kernel
theorem dX1_take_23 : decode cX1_take 23 = .ok (.iconst 1, 1) := by decide +kernel
theorem dX1_take_24 : decode cX1_take 24 = .ok (.putfield 146, 3) := by decide +kernel
theorem dX1_take_27 : decode cX1_take 27 = .ok (.aload_n 0, 1) := by decide +kernel
theorem dX1_take_28 : decode cX1_take 28 = .ok (.getfield 30, 3) := by decide +kernel
theorem dX1_take_31 : decode cX1_take 31 = .ok (.aload_n 2, 1) := by decide +kernel
theorem dX1_take_32 : decode cX1_take 32 = .ok (.getfield 112, 3) := by decide +kernel
theorem dX1_take_35 : decode cX1_take 35 = .ok (.aaload, 1) := by decide +kernel
theorem dX1_take_36 : decode cX1_take 36 = .ok (.iconst 1, 1) := by decide +kernel
theorem dX1_take_37 : decode cX1_take 37 = .ok (.dup2, 1) := by decide +kernel
theorem dX1_take_38 : decode cX1_take 38 = .ok (.iaload, 1) := by decide +kernel
theorem dX1_take_39 : decode cX1_take 39 = .ok (.aload_n 2, 1) := by decide +kernel
theorem dX1_take_40 : decode cX1_take 40 = .ok (.getfield 134, 3) := by decide +kernel
theorem dX1_take_43 : decode cX1_take 43 = .ok (.isub, 1) := by decide +kernel
theorem dX1_take_44 : decode cX1_take 44 = .ok (.iastore, 1) := by decide +kernel
theorem dX1_take_45 : decode cX1_take 45 = .ok (.aload_n 0, 1) := by decide +kernel
theorem dX1_take_46 : decode cX1_take 46 = .ok (.getfield 30, 3) := by decide +kernel
theorem dX1_take_49 : decode cX1_take 49 = .ok (.aload_n 2, 1) := by decide +kernel
theorem dX1_take_50 : decode cX1_take 50 = .ok (.getfield 112, 3) := by decide +kernel
theorem dX1_take_53 : decode cX1_take 53 = .ok (.aaload, 1) := by decide +kernel
theorem dX1_take_54 : decode cX1_take 54 = .ok (.iconst 2, 1) := by decide +kernel
theorem dX1_take_55 : decode cX1_take 55 = .ok (.dup2, 1) := by decide +kernel
theorem dX1_take_56 : decode cX1_take 56 = .ok (.iaload, 1) := by decide +kernel
theorem dX1_take_57 : decode cX1_take 57 = .ok (.aload_n 2, 1) := by decide +kernel
theorem dX1_take_58 : decode cX1_take 58 = .ok (.getfield 134, 3) := by decide +kernel
theorem dX1_take_61 : decode cX1_take 61 = .ok (.iadd, 1) := by decide +kernel
theorem dX1_take_62 : decode cX1_take 62 = .ok (.iastore, 1) := by decide +kernel
theorem dX1_take_63 : decode cX1_take 63 = .ok (.aload_n 2, 1) := by decide +kernel
theorem dX1_take_64 : decode cX1_take 64 = .ok (.getfield 131, 3) := by decide +kernel
theorem dX1_take_67 : decode cX1_take 67 = .ok (.ireturn, 1) := by decide +kernel
theorem dX1_shape_0 : decode cX1_shape 0 = .ok (.iload_n 1, 1) := by decide +kernel
theorem dX1_shape_1 : decode cX1_shape 1 = .ok (.iconst 5, 1) := by decide +kernel
theorem dX1_shape_2 : decode cX1_shape 2 = .ok (.invokestatic 52, 3) := by decide +kernel
theorem dX1_shape_5 : decode cX1_shape 5 = .ok (.ifCond .eq 23, 3) := by decide +kernel
theorem dX1_shape_8 : decode cX1_shape 8 = .ok (.iload_n 2, 1) := by decide +kernel
theorem dX1_shape_9 : decode cX1_shape 9 = .ok (.bipush 7, 2) := by decide +kernel
theorem dX1_shape_11 : decode cX1_shape 11 = .ok (.invokestatic 52, 3) := by decide +kernel
theorem dX1_shape_14 : decode cX1_shape 14 = .ok (.ifCond .eq 14, 3) := by decide +kernel
theorem dX1_shape_17 : decode cX1_shape 17 = .ok (.aload_n 0, 1) := by decide +kernel
theorem dX1_shape_18 : decode cX1_shape 18 = .ok (.getfield 30, 3) := by decide +kernel
theorem dX1_shape_21 : decode cX1_shape 21 = .ok (.iload_n 1, 1) := by decide +kernel
theorem dX1_shape_22 : decode cX1_shape 22 = .ok (.aaload, 1) := by decide +kernel
theorem dX1_shape_23 : decode cX1_shape 23 = .ok (.iload_n 2, 1) := by decide +kernel
theorem dX1_shape_24 : decode cX1_shape 24 = .ok (.iaload, 1) := by decide +kernel
theorem dX1_shape_25 : decode cX1_shape 25 = .ok (.goto 4, 3) := by decide +kernel
theorem dX1_shape_28 : decode cX1_shape 28 = .ok (.iconst (-1), 1) := by decide +kernel
theorem dX1_shape_29 : decode cX1_shape 29 = .ok (.ireturn, 1) := by decide +kernel
theorem dX1_step_0 : decode cX1_step 0 = .ok (.iload_n 1, 1) := by decide +kernel
theorem dX1_step_1 : decode cX1_step 1 = .ok (.bipush 14, 2) := by decide +kernel
theorem dX1_step_3 : decode cX1_step 3 = .ok (.invokestatic 52, 3) := by decide +kernel
theorem dX1_step_6 : decode cX1_step 6 = .ok (.ifCond .eq 12, 3) := by decide +kernel
theorem dX1_step_9 : decode cX1_step 9 = .ok (.aload_n 0, 1) := by decide +kernel
theorem dX1_step_10 : decode cX1_step 10 = .ok (.getfield 33, 3) := by decide +kernel
theorem dX1_step_13 : decode cX1_step 13 = .ok (.iload_n 1, 1) := by decide +kernel
theorem dX1_step_14 : decode cX1_step 14 = .ok (.iaload, 1) := by decide +kernel
theorem dX1_step_15 : decode cX1_step 15 = .ok (.goto 4, 3) := by decide +kernel
theorem dX1_step_18 : decode cX1_step 18 = .ok (.iconst (-1), 1) := by decide +kernel
theorem dX1_step_19 : decode cX1_step 19 = .ok (.ireturn, 1) := by decide +kernel
theorem dX1_bound_0 : decode cX1_bound 0 = .ok (.iload_n 2, 1) := by decide +kernel
theorem dX1_bound_1 : decode cX1_bound 1 = .ok (.iconst 1, 1) := by decide +kernel
theorem dX1_bound_2 : decode cX1_bound 2 = .ok (.sipush 1000, 3) := by decide +kernel
theorem dX1_bound_5 : decode cX1_bound 5 = .ok (.invokestatic 73, 3) := by decide +kernel
theorem dX1_bound_8 : decode cX1_bound 8 = .ok (.ifCond .eq 20, 3) := by decide +kernel
theorem dX1_bound_11 : decode cX1_bound 11 = .ok (.iload_n 1, 1) := by decide +kernel
theorem dX1_bound_12 : decode cX1_bound 12 = .ok (.iconst 0, 1) := by decide +kernel
theorem dX1_bound_13 : decode cX1_bound 13 = .ok (.iload_n 2, 1) := by decide +kernel
theorem dX1_bound_14 : decode cX1_bound 14 = .ok (.invokestatic 73, 3) := by decide +kernel
theorem dX1_bound_17 : decode cX1_bound 17 = .ok (.ifCond .eq 11, 3) := by decide +kernel
theorem dX1_bound_20 : decode cX1_bound 20 = .ok (.iload_n 3, 1) := by decide +kernel
theorem dX1_bound_21 : decode cX1_bound 21 = .ok (.iconst 2, 1) := by decide +kernel
theorem dX1_bound_22 : decode cX1_bound 22 = .ok (.invokestatic 52, 3) := by decide +kernel
theorem dX1_bound_25 : decode cX1_bound 25 = .ok (.ifCond .ne 5, 3) := by decide +kernel
theorem dX1_bound_28 : decode cX1_bound 28 = .ok (.iconst (-1), 1) := by decide +kernel
theorem dX1_bound_29 : decode cX1_bound 29 = .ok (.ireturn, 1) := by decide +kernel
theorem dX1_bound_30 : decode cX1_bound 30 = .ok (.aload_n 0, 1) := by decide +kernel
theorem dX1_bound_31 : decode cX1_bound 31 = .ok (.getfield 25, 3) := by decide +kernel
theorem dX1_bound_34 : decode cX1_bound 34 = .ok (.bipush 10, 2) := by decide +kernel
theorem dX1_bound_36 : decode cX1_bound 36 = .ok (.iaload, 1) := by decide +kernel
theorem dX1_bound_37 : decode cX1_bound 37 = .ok (.ifCond .ne 6, 3) := by decide +kernel
theorem dX1_bound_40 : decode cX1_bound 40 = .ok (.bipush (-9), 2) := by decide +kernel
theorem dX1_bound_42 : decode cX1_bound 42 = .ok (.ireturn, 1) := by decide +kernel
theorem dX1_bound_43 : decode cX1_bound 43 = .ok (.aload_n 0, 1) := by decide +kernel
theorem dX1_bound_44 : decode cX1_bound 44 = .ok (.iload_n 1, 1) := by decide +kernel
theorem dX1_bound_45 : decode cX1_bound 45 = .ok (.iload_n 2, 1) := by decide +kernel
theorem dX1_bound_46 : decode cX1_bound 46 = .ok (.invokevirtual 149, 3) := by decide +kernel
theorem dX1_bound_49 : decode cX1_bound 49 = .ok (.istore 4, 2) := by decide +kernel
theorem dX1_bound_51 : decode cX1_bound 51 = .ok (.iload_n 3, 1) := by decide +kernel
theorem dX1_bound_52 : decode cX1_bound 52 = .ok (.iconst 1, 1) := by decide +kernel
theorem dX1_bound_53 : decode cX1_bound 53 = .ok (.if_icmp .ne 8, 3) := by decide +kernel
theorem dX1_bound_56 : decode cX1_bound 56 = .ok (.iconst 1, 1) := by decide +kernel
theorem dX1_bound_57 : decode cX1_bound 57 = .ok (.iload 4, 2) := by decide +kernel
theorem dX1_bound_59 : decode cX1_bound 59 = .ok (.ishl, 1) := by decide +kernel
theorem dX1_bound_60 : decode cX1_bound 60 = .ok (.ireturn, 1) := by decide +kernel
theorem dX1_bound_61 : decode cX1_bound 61 = .ok (.iload 4, 2) := by decide +kernel
theorem dX1_bound_63 : decode cX1_bound 63 = .ok (.ifCond .ne 7, 3) := by decide +kernel
theorem dX1_bound_66 : decode cX1_bound 66 = .ok (.iconst 0, 1) := by decide +kernel
theorem dX1_bound_67 : decode cX1_bound 67 = .ok (.goto 9, 3) := by decide +kernel
theorem dX1_bound_70 : decode cX1_bound 70 = .ok (.iconst 1, 1) := by decide +kernel
theorem dX1_bound_71 : decode cX1_bound 71 = .ok (.iload 4, 2) := by decide +kernel
theorem dX1_bound_73 : decode cX1_bound 73 = .ok (.iconst 1, 1) := by decide +kernel
theorem dX1_bound_74 : decode cX1_bound 74 = .ok (.isub, 1) := by decide +kernel
theorem dX1_bound_75 : decode cX1_bound 75 = .ok (.ishl, 1) := by decide +kernel
theorem dX1_bound_76 : decode cX1_bound 76 = .ok (.ireturn, 1) := by decide +kernel
theorem dX1_count_0 : decode cX1_count 0 = .ok (.iload_n 1, 1) := by decide +kernel
theorem dX1_count_1 : decode cX1_count 1 = .ok (.bipush 13, 2) := by decide +kernel
theorem dX1_count_3 : decode cX1_count 3 = .ok (.invokestatic 52, 3) := by decide +kernel
theorem dX1_count_6 : decode cX1_count 6 = .ok (.ifCond .eq 12, 3) := by decide +kernel
theorem dX1_count_9 : decode cX1_count 9 = .ok (.aload_n 0, 1) := by decide +kernel
theorem dX1_count_10 : decode cX1_count 10 = .ok (.getfield 25, 3) := by decide +kernel
theorem dX1_count_13 : decode cX1_count 13 = .ok (.iload_n 1, 1) := by decide +kernel
theorem dX1_count_14 : decode cX1_count 14 = .ok (.iaload, 1) := by decide +kernel
theorem dX1_count_15 : decode cX1_count 15 = .ok (.goto 4, 3) := by decide +kernel
theorem dX1_count_18 : decode cX1_count 18 = .ok (.iconst (-1), 1) := by decide +kernel
theorem dX1_count_19 : decode cX1_count 19 = .ok (.ireturn, 1) := by decide +kernel
theorem dX1_trace_0 : decode cX1_trace 0 = .ok (.aload_n 0, 1) := by decide +kernel
theorem dX1_trace_1 : decode cX1_trace 1 = .ok (.getfield 48, 3) := by decide +kernel
theorem dX1_trace_4 : decode cX1_trace 4 = .ok (.lreturn, 1) := by decide +kernel
theorem dX1_isBelow_0 : decode cX1_isBelow 0 = .ok (.iload_n 0, 1) := by decide +kernel
theorem dX1_isBelow_1 : decode cX1_isBelow 1 = .ok (.ifCond .lt 12, 3) := by decide +kernel
theorem dX1_isBelow_4 : decode cX1_isBelow 4 = .ok (.iload_n 0, 1) := by decide +kernel
theorem dX1_isBelow_5 : decode cX1_isBelow 5 = .ok (.iload_n 1, 1) := by decide +kernel
theorem dX1_isBelow_6 : decode cX1_isBelow 6 = .ok (.if_icmp .ge 7, 3) := by decide +kernel
theorem dX1_isBelow_9 : decode cX1_isBelow 9 = .ok (.iconst 1, 1) := by decide +kernel
theorem dX1_isBelow_10 : decode cX1_isBelow 10 = .ok (.goto 4, 3) := by decide +kernel
theorem dX1_isBelow_13 : decode cX1_isBelow 13 = .ok (.iconst 0, 1) := by decide +kernel
theorem dX1_isBelow_14 : decode cX1_isBelow 14 = .ok (.ireturn, 1) := by decide +kernel
theorem dX1_isWithin_0 : decode cX1_isWithin 0 = .ok (.iload_n 0, 1) := by decide +kernel
theorem dX1_isWithin_1 : decode cX1_isWithin 1 = .ok (.iload_n 1, 1) := by decide +kernel
theorem dX1_isWithin_2 : decode cX1_isWithin 2 = .ok (.if_icmp .lt 12, 3) := by decide +kernel
theorem dX1_isWithin_5 : decode cX1_isWithin 5 = .ok (.iload_n 0, 1) := by decide +kernel
theorem dX1_isWithin_6 : decode cX1_isWithin 6 = .ok (.iload_n 2, 1) := by decide +kernel
theorem dX1_isWithin_7 : decode cX1_isWithin 7 = .ok (.if_icmp .gt 7, 3) := by decide +kernel
theorem dX1_isWithin_10 : decode cX1_isWithin 10 = .ok (.iconst 1, 1) := by decide +kernel
theorem dX1_isWithin_11 : decode cX1_isWithin 11 = .ok (.goto 4, 3) := by decide +kernel
theorem dX1_isWithin_14 : decode cX1_isWithin 14 = .ok (.iconst 0, 1) := by decide +kernel
theorem dX1_isWithin_15 : decode cX1_isWithin 15 = .ok (.ireturn, 1) := by decide +kernel
theorem dX1_counted_0 : decode cX1_counted 0 = .ok (.aload_n 0, 1) := by decide +kernel
theorem dX1_counted_1 : decode cX1_counted 1 = .ok (.getfield 25, 3) := by decide +kernel
theorem dX1_counted_4 : decode cX1_counted 4 = .ok (.iload_n 1, 1) := by decide +kernel
theorem dX1_counted_5 : decode cX1_counted 5 = .ok (.dup2, 1) := by decide +kernel
theorem dX1_counted_6 : decode cX1_counted 6 = .ok (.iaload, 1) := by decide +kernel
theorem dX1_counted_7 : decode cX1_counted 7 = .ok (.iconst 1, 1) := by decide +kernel
theorem dX1_counted_8 : decode cX1_counted 8 = .ok (.iadd, 1) := by decide +kernel
theorem dX1_counted_9 : decode cX1_counted 9 = .ok (.iastore, 1) := by decide +kernel
theorem dX1_counted_10 : decode cX1_counted 10 = .ok (.iload_n 2, 1) := by decide +kernel
theorem dX1_counted_11 : decode cX1_counted 11 = .ok (.ireturn, 1) := by decide +kernel
theorem dX1_homeOf_0 : decode cX1_homeOf 0 = .ok (.bipush (-9), 2) := by decide +kernel
theorem dX1_homeOf_2 : decode cX1_homeOf 2 = .ok (.istore_n 2, 1) := by decide +kernel
theorem dX1_homeOf_3 : decode cX1_homeOf 3 = .ok (.iconst (-1), 1) := by decide +kernel
theorem dX1_homeOf_4 : decode cX1_homeOf 4 = .ok (.istore_n 3, 1) := by decide +kernel
theorem dX1_homeOf_5 : decode cX1_homeOf 5 = .ok (.iconst 0, 1) := by decide +kernel
theorem dX1_homeOf_6 : decode cX1_homeOf 6 = .ok (.istore 4, 2) := by decide +kernel
theorem dX1_homeOf_8 : decode cX1_homeOf 8 = .ok (.iload 4, 2) := by decide +kernel
theorem dX1_homeOf_10 : decode cX1_homeOf 10 = .ok (.iconst 4, 1) := by decide +kernel
theorem dX1_homeOf_11 : decode cX1_homeOf 11 = .ok (.if_icmp .ge 45, 3) := by decide +kernel
theorem dX1_homeOf_14 : decode cX1_homeOf 14 = .ok (.bipush 7, 2) := by decide +kernel
theorem dX1_homeOf_16 : decode cX1_homeOf 16 = .ok (.iload_n 1, 1) := by decide +kernel
theorem dX1_homeOf_17 : decode cX1_homeOf 17 = .ok (.imul, 1) := by decide +kernel
theorem dX1_homeOf_18 : decode cX1_homeOf 18 = .ok (.iconst 5, 1) := by decide +kernel
theorem dX1_homeOf_19 : decode cX1_homeOf 19 = .ok (.iload 4, 2) := by decide +kernel
theorem dX1_homeOf_21 : decode cX1_homeOf 21 = .ok (.imul, 1) := by decide +kernel
theorem dX1_homeOf_22 : decode cX1_homeOf 22 = .ok (.iadd, 1) := by decide +kernel
theorem dX1_homeOf_23 : decode cX1_homeOf 23 = .ok (.bipush 11, 2) := by decide +kernel
theorem dX1_homeOf_25 : decode cX1_homeOf 25 = .ok (.irem, 1) := by decide +kernel
theorem dX1_homeOf_26 : decode cX1_homeOf 26 = .ok (.istore 5, 2) := by decide +kernel
theorem dX1_homeOf_28 : decode cX1_homeOf 28 = .ok (.aload_n 0, 1) := by decide +kernel
theorem dX1_homeOf_29 : decode cX1_homeOf 29 = .ok (.getfield 9, 3) := by decide +kernel
theorem dX1_homeOf_32 : decode cX1_homeOf 32 = .ok (.iload 4, 2) := by decide +kernel
theorem dX1_homeOf_34 : decode cX1_homeOf 34 = .ok (.baload, 1) := by decide +kernel
theorem dX1_homeOf_35 : decode cX1_homeOf 35 = .ok (.ifCond .eq 15, 3) := by decide +kernel
theorem dX1_homeOf_38 : decode cX1_homeOf 38 = .ok (.iload 5, 2) := by decide +kernel
theorem dX1_homeOf_40 : decode cX1_homeOf 40 = .ok (.iload_n 3, 1) := by decide +kernel
theorem dX1_homeOf_41 : decode cX1_homeOf 41 = .ok (.if_icmp .le 9, 3) := by decide +kernel
theorem dX1_homeOf_44 : decode cX1_homeOf 44 = .ok (.iload 4, 2) := by decide +kernel
theorem dX1_homeOf_46 : decode cX1_homeOf 46 = .ok (.istore_n 2, 1) := by decide +kernel
theorem dX1_homeOf_47 : decode cX1_homeOf 47 = .ok (.iload 5, 2) := by decide +kernel
theorem dX1_homeOf_49 : decode cX1_homeOf 49 = .ok (.istore_n 3, 1) := by decide +kernel
theorem dX1_homeOf_50 : decode cX1_homeOf 50 = .ok (.iinc 4 1, 3) := by decide +kernel
theorem dX1_homeOf_53 : decode cX1_homeOf 53 = .ok (.goto (-45), 3) := by decide +kernel
theorem dX1_homeOf_56 : decode cX1_homeOf 56 = .ok (.iload_n 2, 1) := by decide +kernel
theorem dX1_homeOf_57 : decode cX1_homeOf 57 = .ok (.ireturn, 1) := by decide +kernel
theorem dX1_loseCallsAt_0 : decode cX1_loseCallsAt 0 = .ok (.iconst 0, 1) := by decide +kernel
theorem dX1_loseCallsAt_1 : decode cX1_loseCallsAt 1 = .ok (.istore_n 2, 1) := by decide +kernel
theorem dX1_loseCallsAt_2 : decode cX1_loseCallsAt 2 = .ok (.iload_n 2, 1) := by decide +kernel
theorem dX1_loseCallsAt_3 : decode cX1_loseCallsAt 3 = .ok (.bipush 100, 2) := by decide +kernel
theorem dX1_loseCallsAt_5 : decode cX1_loseCallsAt 5 = .ok (.if_icmp .ge 43, 3) := by decide +kernel
theorem dX1_loseCallsAt_8 : decode cX1_loseCallsAt 8 = .ok (.aload_n 0, 1) := by decide +kernel
theorem dX1_loseCallsAt_9 : decode cX1_loseCallsAt 9 = .ok (.getfield 38, 3) := by decide +kernel
theorem dX1_loseCallsAt_12 : decode cX1_loseCallsAt 12 = .ok (.iload_n 2, 1) := by decide +kernel
theorem dX1_loseCallsAt_13 : decode cX1_loseCallsAt 13 = .ok (.aaload, 1) := by decide +kernel
theorem dX1_loseCallsAt_14 : decode cX1_loseCallsAt 14 = .ok (.astore_n 3, 1) := by decide +kernel
theorem dX1_loseCallsAt_15 : decode cX1_loseCallsAt 15 = .ok (.aload_n 3, 1) := by decide +kernel
theorem dX1_loseCallsAt_16 : decode cX1_loseCallsAt 16 = .ok (.ifnull 26, 3) := by decide +kernel
theorem dX1_loseCallsAt_19 : decode cX1_loseCallsAt 19 = .ok (.aload_n 3, 1) := by decide +kernel
theorem dX1_loseCallsAt_20 : decode cX1_loseCallsAt 20 = .ok (.getfield 105, 3) := by decide +kernel
theorem dX1_loseCallsAt_23 : decode cX1_loseCallsAt 23 = .ok (.iload_n 1, 1) := by decide +kernel
theorem dX1_loseCallsAt_24 : decode cX1_loseCallsAt 24 = .ok (.if_icmp .ne 18, 3) := by decide +kernel
theorem dX1_loseCallsAt_27 : decode cX1_loseCallsAt 27 = .ok (.aload_n 0, 1) := by decide +kernel
theorem dX1_loseCallsAt_28 : decode cX1_loseCallsAt 28 = .ok (.aload_n 3, 1) := by decide +kernel
theorem dX1_loseCallsAt_29 : decode cX1_loseCallsAt 29 = .ok (.invokevirtual 152, 3) := by decide +kernel
theorem dX1_loseCallsAt_32 : decode cX1_loseCallsAt 32 = .ok (.aload_n 0, 1) := by decide +kernel
theorem dX1_loseCallsAt_33 : decode cX1_loseCallsAt 33 = .ok (.getfield 25, 3) := by decide +kernel
theorem dX1_loseCallsAt_36 : decode cX1_loseCallsAt 36 = .ok (.iconst 3, 1) := by decide +kernel
theorem dX1_loseCallsAt_37 : decode cX1_loseCallsAt 37 = .ok (.dup2, 1) := by decide +kernel
theorem dX1_loseCallsAt_38 : decode cX1_loseCallsAt 38 = .ok (.iaload, 1) := by decide +kernel
theorem dX1_loseCallsAt_39 : decode cX1_loseCallsAt 39 = .ok (.iconst 1, 1) := by decide +kernel
theorem dX1_loseCallsAt_40 : decode cX1_loseCallsAt 40 = .ok (.iadd, 1) := by decide +kernel
theorem dX1_loseCallsAt_41 : decode cX1_loseCallsAt 41 = .ok (.iastore, 1) := by decide +kernel
theorem dX1_loseCallsAt_42 : decode cX1_loseCallsAt 42 = .ok (.iinc 2 1, 3) := by decide +kernel
theorem dX1_loseCallsAt_45 : decode cX1_loseCallsAt 45 = .ok (.goto (-43), 3) := by decide +kernel
theorem dX1_loseCallsAt_48 : decode cX1_loseCallsAt 48 = .ok (.return_, 1) := by decide +kernel
theorem dX1_moveCallsHome_0 : decode cX1_moveCallsHome 0 = .ok (.iconst 0, 1) := by decide +kernel
theorem dX1_moveCallsHome_1 : decode cX1_moveCallsHome 1 = .ok (.istore_n 1, 1) := by decide +kernel
theorem dX1_moveCallsHome_2 : decode cX1_moveCallsHome 2 = .ok (.iload_n 1, 1) := by decide +kernel
theorem dX1_moveCallsHome_3 : decode cX1_moveCallsHome 3 = .ok (.bipush 100, 2) := by decide +kernel
theorem dX1_moveCallsHome_5 : decode cX1_moveCallsHome 5 = .ok (.if_icmp .ge 52, 3) := by decide +kernel
theorem dX1_moveCallsHome_8 : decode cX1_moveCallsHome 8 = .ok (.aload_n 0, 1) := by decide +kernel
theorem dX1_moveCallsHome_9 : decode cX1_moveCallsHome 9 = .ok (.getfield 38, 3) := by decide +kernel
theorem dX1_moveCallsHome_12 : decode cX1_moveCallsHome 12 = .ok (.iload_n 1, 1) := by decide +kernel
theorem dX1_moveCallsHome_13 : decode cX1_moveCallsHome 13 = .ok (.aaload, 1) := by decide +kernel
theorem dX1_moveCallsHome_14 : decode cX1_moveCallsHome 14 = .ok (.astore_n 2, 1) := by decide +kernel
theorem dX1_moveCallsHome_15 : decode cX1_moveCallsHome 15 = .ok (.aload_n 2, 1) := by decide +kernel
theorem dX1_moveCallsHome_16 : decode cX1_moveCallsHome 16 = .ok (.ifnonnull 6, 3) := by decide +kernel
theorem dX1_moveCallsHome_19 : decode cX1_moveCallsHome 19 = .ok (.goto 32, 3) := by decide +kernel
theorem dX1_moveCallsHome_22 : decode cX1_moveCallsHome 22 = .ok (.aload_n 0, 1) := by decide +kernel
theorem dX1_moveCallsHome_23 : decode cX1_moveCallsHome 23 = .ok (.iload_n 1, 1) := by decide +kernel
theorem dX1_moveCallsHome_24 : decode cX1_moveCallsHome 24 = .ok (.invokevirtual 63, 3) := by decide +kernel
theorem dX1_moveCallsHome_27 : decode cX1_moveCallsHome 27 = .ok (.istore_n 3, 1) := by decide +kernel
theorem dX1_moveCallsHome_28 : decode cX1_moveCallsHome 28 = .ok (.iload_n 3, 1) := by decide +kernel
theorem dX1_moveCallsHome_29 : decode cX1_moveCallsHome 29 = .ok (.aload_n 2, 1) := by decide +kernel
theorem dX1_moveCallsHome_30 : decode cX1_moveCallsHome 30 = .ok (.getfield 105, 3) := by decide +kernel
theorem dX1_moveCallsHome_33 : decode cX1_moveCallsHome 33 = .ok (.if_icmp .eq 18, 3) := by decide +kernel
theorem dX1_moveCallsHome_36 : decode cX1_moveCallsHome 36 = .ok (.aload_n 2, 1) := by decide +kernel
theorem dX1_moveCallsHome_37 : decode cX1_moveCallsHome 37 = .ok (.iload_n 3, 1) := by decide +kernel
theorem dX1_moveCallsHome_38 : decode cX1_moveCallsHome 38 = .ok (.putfield 105, 3) := by decide +kernel
theorem dX1_moveCallsHome_41 : decode cX1_moveCallsHome 41 = .ok (.aload_n 0, 1) := by decide +kernel
theorem dX1_moveCallsHome_42 : decode cX1_moveCallsHome 42 = .ok (.getfield 25, 3) := by decide +kernel
theorem dX1_moveCallsHome_45 : decode cX1_moveCallsHome 45 = .ok (.iconst 4, 1) := by decide +kernel
theorem dX1_moveCallsHome_46 : decode cX1_moveCallsHome 46 = .ok (.dup2, 1) := by decide +kernel
theorem dX1_moveCallsHome_47 : decode cX1_moveCallsHome 47 = .ok (.iaload, 1) := by decide +kernel
theorem dX1_moveCallsHome_48 : decode cX1_moveCallsHome 48 = .ok (.iconst 1, 1) := by decide +kernel
theorem dX1_moveCallsHome_49 : decode cX1_moveCallsHome 49 = .ok (.iadd, 1) := by decide +kernel
theorem dX1_moveCallsHome_50 : decode cX1_moveCallsHome 50 = .ok (.iastore, 1) := by decide +kernel
theorem dX1_moveCallsHome_51 : decode cX1_moveCallsHome 51 = .ok (.iinc 1 1, 3) := by decide +kernel
theorem dX1_moveCallsHome_54 : decode cX1_moveCallsHome 54 = .ok (.goto (-52), 3) := by decide +kernel
theorem dX1_moveCallsHome_57 : decode cX1_moveCallsHome 57 = .ok (.return_, 1) := by decide +kernel
theorem dX1_stopWaiting_0 : decode cX1_stopWaiting 0 = .ok (.aload_n 0, 1) := by decide +kernel
theorem dX1_stopWaiting_1 : decode cX1_stopWaiting 1 = .ok (.getfield 38, 3) := by decide +kernel
theorem dX1_stopWaiting_4 : decode cX1_stopWaiting 4 = .ok (.aload_n 1, 1) := by decide +kernel
theorem dX1_stopWaiting_5 : decode cX1_stopWaiting 5 = .ok (.getfield 131, 3) := by decide +kernel
theorem dX1_stopWaiting_8 : decode cX1_stopWaiting 8 = .ok (.aconst_null, 1) := by decide +kernel
theorem dX1_stopWaiting_9 : decode cX1_stopWaiting 9 = .ok (.aastore, 1) := by decide +kernel
theorem dX1_stopWaiting_10 : decode cX1_stopWaiting 10 = .ok (.aload_n 0, 1) := by decide +kernel
theorem dX1_stopWaiting_11 : decode cX1_stopWaiting 11 = .ok (.getfield 25, 3) := by decide +kernel
theorem dX1_stopWaiting_14 : decode cX1_stopWaiting 14 = .ok (.iconst 1, 1) := by decide +kernel
theorem dX1_stopWaiting_15 : decode cX1_stopWaiting 15 = .ok (.dup2, 1) := by decide +kernel
theorem dX1_stopWaiting_16 : decode cX1_stopWaiting 16 = .ok (.iaload, 1) := by decide +kernel
theorem dX1_stopWaiting_17 : decode cX1_stopWaiting 17 = .ok (.iconst 1, 1) := by decide +kernel
theorem dX1_stopWaiting_18 : decode cX1_stopWaiting 18 = .ok (.isub, 1) := by decide +kernel
theorem dX1_stopWaiting_19 : decode cX1_stopWaiting 19 = .ok (.iastore, 1) := by decide +kernel
theorem dX1_stopWaiting_20 : decode cX1_stopWaiting 20 = .ok (.return_, 1) := by decide +kernel
theorem dX1_leaveFair_0 : decode cX1_leaveFair 0 = .ok (.iconst 0, 1) := by decide +kernel
theorem dX1_leaveFair_1 : decode cX1_leaveFair 1 = .ok (.istore_n 1, 1) := by decide +kernel
theorem dX1_leaveFair_2 : decode cX1_leaveFair 2 = .ok (.iload_n 1, 1) := by decide +kernel
theorem dX1_leaveFair_3 : decode cX1_leaveFair 3 = .ok (.iconst 5, 1) := by decide +kernel
theorem dX1_leaveFair_4 : decode cX1_leaveFair 4 = .ok (.if_icmp .ge 38, 3) := by decide +kernel
theorem dX1_leaveFair_7 : decode cX1_leaveFair 7 = .ok (.aload_n 0, 1) := by decide +kernel
theorem dX1_leaveFair_8 : decode cX1_leaveFair 8 = .ok (.getfield 30, 3) := by decide +kernel
theorem dX1_leaveFair_11 : decode cX1_leaveFair 11 = .ok (.iload_n 1, 1) := by decide +kernel
theorem dX1_leaveFair_12 : decode cX1_leaveFair 12 = .ok (.aaload, 1) := by decide +kernel
theorem dX1_leaveFair_13 : decode cX1_leaveFair 13 = .ok (.bipush 6, 2) := by decide +kernel
theorem dX1_leaveFair_15 : decode cX1_leaveFair 15 = .ok (.dup2, 1) := by decide +kernel
theorem dX1_leaveFair_16 : decode cX1_leaveFair 16 = .ok (.iaload, 1) := by decide +kernel
theorem dX1_leaveFair_17 : decode cX1_leaveFair 17 = .ok (.aload_n 0, 1) := by decide +kernel
theorem dX1_leaveFair_18 : decode cX1_leaveFair 18 = .ok (.getfield 30, 3) := by decide +kernel
theorem dX1_leaveFair_21 : decode cX1_leaveFair 21 = .ok (.iload_n 1, 1) := by decide +kernel
theorem dX1_leaveFair_22 : decode cX1_leaveFair 22 = .ok (.aaload, 1) := by decide +kernel
theorem dX1_leaveFair_23 : decode cX1_leaveFair 23 = .ok (.iconst 5, 1) := by decide +kernel
theorem dX1_leaveFair_24 : decode cX1_leaveFair 24 = .ok (.iaload, 1) := by decide +kernel
theorem dX1_leaveFair_25 : decode cX1_leaveFair 25 = .ok (.iadd, 1) := by decide +kernel
theorem dX1_leaveFair_26 : decode cX1_leaveFair 26 = .ok (.iastore, 1) := by decide +kernel
theorem dX1_leaveFair_27 : decode cX1_leaveFair 27 = .ok (.aload_n 0, 1) := by decide +kernel
theorem dX1_leaveFair_28 : decode cX1_leaveFair 28 = .ok (.getfield 30, 3) := by decide +kernel
theorem dX1_leaveFair_31 : decode cX1_leaveFair 31 = .ok (.iload_n 1, 1) := by decide +kernel
theorem dX1_leaveFair_32 : decode cX1_leaveFair 32 = .ok (.aaload, 1) := by decide +kernel
theorem dX1_leaveFair_33 : decode cX1_leaveFair 33 = .ok (.iconst 5, 1) := by decide +kernel
theorem dX1_leaveFair_34 : decode cX1_leaveFair 34 = .ok (.iconst 0, 1) := by decide +kernel
theorem dX1_leaveFair_35 : decode cX1_leaveFair 35 = .ok (.iastore, 1) := by decide +kernel
theorem dX1_leaveFair_36 : decode cX1_leaveFair 36 = .ok (.iinc 1 1, 3) := by decide +kernel
theorem dX1_leaveFair_39 : decode cX1_leaveFair 39 = .ok (.goto (-37), 3) := by decide +kernel
theorem dX1_leaveFair_42 : decode cX1_leaveFair 42 = .ok (.return_, 1) := by decide +kernel
theorem dX1_hearWaiting_0 : decode cX1_hearWaiting 0 = .ok (.aload_n 1, 1) := by decide +kernel
theorem dX1_hearWaiting_1 : decode cX1_hearWaiting 1 = .ok (.iload_n 2, 1) := by decide +kernel
theorem dX1_hearWaiting_2 : decode cX1_hearWaiting 2 = .ok (.invokevirtual 156, 3) := by decide +kernel
theorem dX1_hearWaiting_5 : decode cX1_hearWaiting 5 = .ok (.ifCond .eq 10, 3) := by decide +kernel
theorem dX1_hearWaiting_8 : decode cX1_hearWaiting 8 = .ok (.aload_n 0, 1) := by decide +kernel
theorem dX1_hearWaiting_9 : decode cX1_hearWaiting 9 = .ok (.iconst 5, 1) := by decide +kernel
theorem dX1_hearWaiting_10 : decode cX1_hearWaiting 10 = .ok (.iconst 3, 1) := by decide +kernel
theorem dX1_hearWaiting_11 : decode cX1_hearWaiting 11 = .ok (.invokevirtual 80, 3) := by decide +kernel
theorem dX1_hearWaiting_14 : decode cX1_hearWaiting 14 = .ok (.ireturn, 1) := by decide +kernel
theorem dX1_hearWaiting_15 : decode cX1_hearWaiting 15 = .ok (.aload_n 1, 1) := by decide +kernel
theorem dX1_hearWaiting_16 : decode cX1_hearWaiting 16 = .ok (.iload_n 2, 1) := by decide +kernel
theorem dX1_hearWaiting_17 : decode cX1_hearWaiting 17 = .ok (.iload_n 3, 1) := by decide +kernel
theorem dX1_hearWaiting_18 : decode cX1_hearWaiting 18 = .ok (.invokevirtual 160, 3) := by decide +kernel
theorem dX1_hearWaiting_21 : decode cX1_hearWaiting 21 = .ok (.ifCond .eq 11, 3) := by decide +kernel
theorem dX1_hearWaiting_24 : decode cX1_hearWaiting 24 = .ok (.aload_n 0, 1) := by decide +kernel
theorem dX1_hearWaiting_25 : decode cX1_hearWaiting 25 = .ok (.bipush 6, 2) := by decide +kernel
theorem dX1_hearWaiting_27 : decode cX1_hearWaiting 27 = .ok (.iconst 4, 1) := by decide +kernel
theorem dX1_hearWaiting_28 : decode cX1_hearWaiting 28 = .ok (.invokevirtual 80, 3) := by decide +kernel
theorem dX1_hearWaiting_31 : decode cX1_hearWaiting 31 = .ok (.ireturn, 1) := by decide +kernel
theorem dX1_hearWaiting_32 : decode cX1_hearWaiting 32 = .ok (.aload_n 0, 1) := by decide +kernel
theorem dX1_hearWaiting_33 : decode cX1_hearWaiting 33 = .ok (.aload_n 1, 1) := by decide +kernel
theorem dX1_hearWaiting_34 : decode cX1_hearWaiting 34 = .ok (.iload_n 2, 1) := by decide +kernel
theorem dX1_hearWaiting_35 : decode cX1_hearWaiting 35 = .ok (.iload_n 3, 1) := by decide +kernel
theorem dX1_hearWaiting_36 : decode cX1_hearWaiting 36 = .ok (.iload 4, 2) := by decide +kernel
theorem dX1_hearWaiting_38 : decode cX1_hearWaiting 38 = .ok (.invokevirtual 99, 3) := by decide +kernel
theorem dX1_hearWaiting_41 : decode cX1_hearWaiting 41 = .ok (.ireturn, 1) := by decide +kernel
theorem dX1_takeIn_0 : decode cX1_takeIn 0 = .ok (.aload_n 1, 1) := by decide +kernel
theorem dX1_takeIn_1 : decode cX1_takeIn 1 = .ok (.iload_n 2, 1) := by decide +kernel
theorem dX1_takeIn_2 : decode cX1_takeIn 2 = .ok (.iload 4, 2) := by decide +kernel
theorem dX1_takeIn_4 : decode cX1_takeIn 4 = .ok (.invokevirtual 164, 3) := by decide +kernel
theorem dX1_takeIn_7 : decode cX1_takeIn 7 = .ok (.iload_n 3, 1) := by decide +kernel
theorem dX1_takeIn_8 : decode cX1_takeIn 8 = .ok (.ifCond .eq 8, 3) := by decide +kernel
theorem dX1_takeIn_11 : decode cX1_takeIn 11 = .ok (.aload_n 1, 1) := by decide +kernel
theorem dX1_takeIn_12 : decode cX1_takeIn 12 = .ok (.iload_n 2, 1) := by decide +kernel
theorem dX1_takeIn_13 : decode cX1_takeIn 13 = .ok (.putfield 118, 3) := by decide +kernel
theorem dX1_takeIn_16 : decode cX1_takeIn 16 = .ok (.aload_n 1, 1) := by decide +kernel
theorem dX1_takeIn_17 : decode cX1_takeIn 17 = .ok (.invokevirtual 168, 3) := by decide +kernel
theorem dX1_takeIn_20 : decode cX1_takeIn 20 = .ok (.ifCond .ne 5, 3) := by decide +kernel
theorem dX1_takeIn_23 : decode cX1_takeIn 23 = .ok (.iconst 1, 1) := by decide +kernel
theorem dX1_takeIn_24 : decode cX1_takeIn 24 = .ok (.ireturn, 1) := by decide +kernel
theorem dX1_takeIn_25 : decode cX1_takeIn 25 = .ok (.aload_n 0, 1) := by decide +kernel
theorem dX1_takeIn_26 : decode cX1_takeIn 26 = .ok (.aload_n 1, 1) := by decide +kernel
theorem dX1_takeIn_27 : decode cX1_takeIn 27 = .ok (.iconst 0, 1) := by decide +kernel
theorem dX1_takeIn_28 : decode cX1_takeIn 28 = .ok (.invokevirtual 172, 3) := by decide +kernel
theorem dX1_takeIn_31 : decode cX1_takeIn 31 = .ok (.iconst 2, 1) := by decide +kernel
theorem dX1_takeIn_32 : decode cX1_takeIn 32 = .ok (.ireturn, 1) := by decide +kernel
end
section
theorem dX1_hearDecided_0 : decode cX1_hearDecided 0 = .ok (.aload_n 0, 1) := by decide +kernel
theorem dX1_hearDecided_1 : decode cX1_hearDecided 1 = .ok (.getfield 25, 3) := by decide +kernel
theorem dX1_hearDecided_4 : decode cX1_hearDecided 4 = .ok (.iconst 0, 1) := by decide +kernel
theorem dX1_hearDecided_5 : decode cX1_hearDecided 5 = .ok (.iaload, 1) := by decide +kernel
theorem dX1_hearDecided_6 : decode cX1_hearDecided 6 = .ok (.aload_n 1, 1) := by decide +kernel
theorem dX1_hearDecided_7 : decode cX1_hearDecided 7 = .ok (.getfield 140, 3) := by decide +kernel
theorem dX1_hearDecided_10 : decode cX1_hearDecided 10 = .ok (.isub, 1) := by decide +kernel
theorem dX1_hearDecided_11 : decode cX1_hearDecided 11 = .ok (.aload_n 0, 1) := by decide +kernel
theorem dX1_hearDecided_12 : decode cX1_hearDecided 12 = .ok (.getfield 22, 3) := by decide +kernel
theorem dX1_hearDecided_15 : decode cX1_hearDecided 15 = .ok (.iconst 5, 1) := by decide +kernel
theorem dX1_hearDecided_16 : decode cX1_hearDecided 16 = .ok (.iaload, 1) := by decide +kernel
theorem dX1_hearDecided_17 : decode cX1_hearDecided 17 = .ok (.if_icmp .gt 7, 3) := by decide +kernel
theorem dX1_hearDecided_20 : decode cX1_hearDecided 20 = .ok (.iconst 1, 1) := by decide +kernel
theorem dX1_hearDecided_21 : decode cX1_hearDecided 21 = .ok (.goto 4, 3) := by decide +kernel
theorem dX1_hearDecided_24 : decode cX1_hearDecided 24 = .ok (.iconst 0, 1) := by decide +kernel
theorem dX1_hearDecided_25 : decode cX1_hearDecided 25 = .ok (.istore 4, 2) := by decide +kernel
theorem dX1_hearDecided_27 : decode cX1_hearDecided 27 = .ok (.aload_n 1, 1) := by decide +kernel
theorem dX1_hearDecided_28 : decode cX1_hearDecided 28 = .ok (.getfield 124, 3) := by decide +kernel
theorem dX1_hearDecided_31 : decode cX1_hearDecided 31 = .ok (.ifCond .eq 16, 3) := by decide +kernel
theorem dX1_hearDecided_34 : decode cX1_hearDecided 34 = .ok (.iload 4, 2) := by decide +kernel
theorem dX1_hearDecided_36 : decode cX1_hearDecided 36 = .ok (.ifCond .eq 11, 3) := by decide +kernel
theorem dX1_hearDecided_39 : decode cX1_hearDecided 39 = .ok (.aload_n 1, 1) := by decide +kernel
theorem dX1_hearDecided_40 : decode cX1_hearDecided 40 = .ok (.iload_n 2, 1) := by decide +kernel
theorem dX1_hearDecided_41 : decode cX1_hearDecided 41 = .ok (.invokevirtual 156, 3) := by decide +kernel
theorem dX1_hearDecided_44 : decode cX1_hearDecided 44 = .ok (.ifCond .eq 12, 3) := by decide +kernel
theorem dX1_hearDecided_47 : decode cX1_hearDecided 47 = .ok (.aload_n 0, 1) := by decide +kernel
theorem dX1_hearDecided_48 : decode cX1_hearDecided 48 = .ok (.bipush 8, 2) := by decide +kernel
theorem dX1_hearDecided_50 : decode cX1_hearDecided 50 = .ok (.bipush 6, 2) := by decide +kernel
theorem dX1_hearDecided_52 : decode cX1_hearDecided 52 = .ok (.invokevirtual 80, 3) := by decide +kernel
theorem dX1_hearDecided_55 : decode cX1_hearDecided 55 = .ok (.ireturn, 1) := by decide +kernel
theorem dX1_hearDecided_56 : decode cX1_hearDecided 56 = .ok (.aload_n 1, 1) := by decide +kernel
theorem dX1_hearDecided_57 : decode cX1_hearDecided 57 = .ok (.iload_n 2, 1) := by decide +kernel
theorem dX1_hearDecided_58 : decode cX1_hearDecided 58 = .ok (.iload_n 3, 1) := by decide +kernel
theorem dX1_hearDecided_59 : decode cX1_hearDecided 59 = .ok (.invokevirtual 164, 3) := by decide +kernel
theorem dX1_hearDecided_62 : decode cX1_hearDecided 62 = .ok (.aload_n 0, 1) := by decide +kernel
theorem dX1_hearDecided_63 : decode cX1_hearDecided 63 = .ok (.bipush 7, 2) := by decide +kernel
theorem dX1_hearDecided_65 : decode cX1_hearDecided 65 = .ok (.iconst 5, 1) := by decide +kernel
theorem dX1_hearDecided_66 : decode cX1_hearDecided 66 = .ok (.invokevirtual 80, 3) := by decide +kernel
theorem dX1_hearDecided_69 : decode cX1_hearDecided 69 = .ok (.ireturn, 1) := by decide +kernel
theorem dX1_recall_0 : decode cX1_recall 0 = .ok (.aload_n 0, 1) := by decide +kernel
theorem dX1_recall_1 : decode cX1_recall 1 = .ok (.getfield 42, 3) := by decide +kernel
theorem dX1_recall_4 : decode cX1_recall 4 = .ok (.iload_n 1, 1) := by decide +kernel
theorem dX1_recall_5 : decode cX1_recall 5 = .ok (.aaload, 1) := by decide +kernel
theorem dX1_recall_6 : decode cX1_recall 6 = .ok (.astore_n 2, 1) := by decide +kernel
theorem dX1_recall_7 : decode cX1_recall 7 = .ok (.aload_n 2, 1) := by decide +kernel
theorem dX1_recall_8 : decode cX1_recall 8 = .ok (.ifnull 26, 3) := by decide +kernel
theorem dX1_recall_11 : decode cX1_recall 11 = .ok (.aload_n 2, 1) := by decide +kernel
theorem dX1_recall_12 : decode cX1_recall 12 = .ok (.getfield 146, 3) := by decide +kernel
theorem dX1_recall_15 : decode cX1_recall 15 = .ok (.ifCond .ne 19, 3) := by decide +kernel
theorem dX1_recall_18 : decode cX1_recall 18 = .ok (.aload_n 0, 1) := by decide +kernel
theorem dX1_recall_19 : decode cX1_recall 19 = .ok (.getfield 25, 3) := by decide +kernel
theorem dX1_recall_22 : decode cX1_recall 22 = .ok (.iconst 0, 1) := by decide +kernel
theorem dX1_recall_23 : decode cX1_recall 23 = .ok (.iaload, 1) := by decide +kernel
theorem dX1_recall_24 : decode cX1_recall 24 = .ok (.aload_n 2, 1) := by decide +kernel
theorem dX1_recall_25 : decode cX1_recall 25 = .ok (.getfield 140, 3) := by decide +kernel
theorem dX1_recall_28 : decode cX1_recall 28 = .ok (.isub, 1) := by decide +kernel
theorem dX1_recall_29 : decode cX1_recall 29 = .ok (.bipush 50, 2) := by decide +kernel
theorem dX1_recall_31 : decode cX1_recall 31 = .ok (.if_icmp .lt 5, 3) := by decide +kernel
theorem dX1_recall_34 : decode cX1_recall 34 = .ok (.aconst_null, 1) := by decide +kernel
theorem dX1_recall_35 : decode cX1_recall 35 = .ok (.areturn, 1) := by decide +kernel
theorem dX1_recall_36 : decode cX1_recall 36 = .ok (.aload_n 2, 1) := by decide +kernel
theorem dX1_recall_37 : decode cX1_recall 37 = .ok (.areturn, 1) := by decide +kernel
theorem dX1_passOneTick_0 : decode cX1_passOneTick 0 = .ok (.aload_n 0, 1) := by decide +kernel
theorem dX1_passOneTick_1 : decode cX1_passOneTick 1 = .ok (.getfield 25, 3) := by decide +kernel
theorem dX1_passOneTick_4 : decode cX1_passOneTick 4 = .ok (.iconst 0, 1) := by decide +kernel
theorem dX1_passOneTick_5 : decode cX1_passOneTick 5 = .ok (.dup2, 1) := by decide +kernel
theorem dX1_passOneTick_6 : decode cX1_passOneTick 6 = .ok (.iaload, 1) := by decide +kernel
theorem dX1_passOneTick_7 : decode cX1_passOneTick 7 = .ok (.iconst 1, 1) := by decide +kernel
theorem dX1_passOneTick_8 : decode cX1_passOneTick 8 = .ok (.iadd, 1) := by decide +kernel
theorem dX1_passOneTick_9 : decode cX1_passOneTick 9 = .ok (.iastore, 1) := by decide +kernel
theorem dX1_passOneTick_10 : decode cX1_passOneTick 10 = .ok (.iconst 0, 1) := by decide +kernel
theorem dX1_passOneTick_11 : decode cX1_passOneTick 11 = .ok (.istore_n 1, 1) := by decide +kernel
theorem dX1_passOneTick_12 : decode cX1_passOneTick 12 = .ok (.iload_n 1, 1) := by decide +kernel
theorem dX1_passOneTick_13 : decode cX1_passOneTick 13 = .ok (.bipush 100, 2) := by decide +kernel
theorem dX1_passOneTick_15 : decode cX1_passOneTick 15 = .ok (.if_icmp .ge 46, 3) := by decide +kernel
theorem dX1_passOneTick_18 : decode cX1_passOneTick 18 = .ok (.aload_n 0, 1) := by decide +kernel
theorem dX1_passOneTick_19 : decode cX1_passOneTick 19 = .ok (.getfield 38, 3) := by decide +kernel
theorem dX1_passOneTick_22 : decode cX1_passOneTick 22 = .ok (.iload_n 1, 1) := by decide +kernel
theorem dX1_passOneTick_23 : decode cX1_passOneTick 23 = .ok (.aaload, 1) := by decide +kernel
theorem dX1_passOneTick_24 : decode cX1_passOneTick 24 = .ok (.astore_n 2, 1) := by decide +kernel
theorem dX1_passOneTick_25 : decode cX1_passOneTick 25 = .ok (.aload_n 2, 1) := by decide +kernel
theorem dX1_passOneTick_26 : decode cX1_passOneTick 26 = .ok (.ifnull 29, 3) := by decide +kernel
theorem dX1_passOneTick_29 : decode cX1_passOneTick 29 = .ok (.aload_n 0, 1) := by decide +kernel
theorem dX1_passOneTick_30 : decode cX1_passOneTick 30 = .ok (.getfield 25, 3) := by decide +kernel
theorem dX1_passOneTick_33 : decode cX1_passOneTick 33 = .ok (.iconst 0, 1) := by decide +kernel
theorem dX1_passOneTick_34 : decode cX1_passOneTick 34 = .ok (.iaload, 1) := by decide +kernel
theorem dX1_passOneTick_35 : decode cX1_passOneTick 35 = .ok (.aload_n 2, 1) := by decide +kernel
theorem dX1_passOneTick_36 : decode cX1_passOneTick 36 = .ok (.getfield 121, 3) := by decide +kernel
theorem dX1_passOneTick_39 : decode cX1_passOneTick 39 = .ok (.isub, 1) := by decide +kernel
theorem dX1_passOneTick_40 : decode cX1_passOneTick 40 = .ok (.aload_n 0, 1) := by decide +kernel
theorem dX1_passOneTick_41 : decode cX1_passOneTick 41 = .ok (.getfield 22, 3) := by decide +kernel
theorem dX1_passOneTick_44 : decode cX1_passOneTick 44 = .ok (.iconst 4, 1) := by decide +kernel
theorem dX1_passOneTick_45 : decode cX1_passOneTick 45 = .ok (.iaload, 1) := by decide +kernel
theorem dX1_passOneTick_46 : decode cX1_passOneTick 46 = .ok (.if_icmp .lt 9, 3) := by decide +kernel
theorem dX1_passOneTick_49 : decode cX1_passOneTick 49 = .ok (.aload_n 0, 1) := by decide +kernel
theorem dX1_passOneTick_50 : decode cX1_passOneTick 50 = .ok (.aload_n 2, 1) := by decide +kernel
theorem dX1_passOneTick_51 : decode cX1_passOneTick 51 = .ok (.iconst 1, 1) := by decide +kernel
theorem dX1_passOneTick_52 : decode cX1_passOneTick 52 = .ok (.invokevirtual 172, 3) := by decide +kernel
theorem dX1_passOneTick_55 : decode cX1_passOneTick 55 = .ok (.iinc 1 1, 3) := by decide +kernel
theorem dX1_passOneTick_58 : decode cX1_passOneTick 58 = .ok (.goto (-46), 3) := by decide +kernel
theorem dX1_passOneTick_61 : decode cX1_passOneTick 61 = .ok (.return_, 1) := by decide +kernel
theorem dX1_decide_0 : decode cX1_decide 0 = .ok (.aload_n 0, 1) := by decide +kernel
theorem dX1_decide_1 : decode cX1_decide 1 = .ok (.aload_n 1, 1) := by decide +kernel
theorem dX1_decide_2 : decode cX1_decide 2 = .ok (.invokevirtual 152, 3) := by decide +kernel
theorem dX1_decide_5 : decode cX1_decide 5 = .ok (.aload_n 0, 1) := by decide +kernel
theorem dX1_decide_6 : decode cX1_decide 6 = .ok (.getfield 42, 3) := by decide +kernel
theorem dX1_decide_9 : decode cX1_decide 9 = .ok (.aload_n 1, 1) := by decide +kernel
theorem dX1_decide_10 : decode cX1_decide 10 = .ok (.getfield 131, 3) := by decide +kernel
theorem dX1_decide_13 : decode cX1_decide 13 = .ok (.aload_n 1, 1) := by decide +kernel
theorem dX1_decide_14 : decode cX1_decide 14 = .ok (.aastore, 1) := by decide +kernel
theorem dX1_decide_15 : decode cX1_decide 15 = .ok (.aload_n 1, 1) := by decide +kernel
theorem dX1_decide_16 : decode cX1_decide 16 = .ok (.iload_n 2, 1) := by decide +kernel
theorem dX1_decide_17 : decode cX1_decide 17 = .ok (.putfield 137, 3) := by decide +kernel
theorem dX1_decide_20 : decode cX1_decide 20 = .ok (.aload_n 1, 1) := by decide +kernel
theorem dX1_decide_21 : decode cX1_decide 21 = .ok (.aload_n 0, 1) := by decide +kernel
theorem dX1_decide_22 : decode cX1_decide 22 = .ok (.getfield 25, 3) := by decide +kernel
theorem dX1_decide_25 : decode cX1_decide 25 = .ok (.iconst 0, 1) := by decide +kernel
theorem dX1_decide_26 : decode cX1_decide 26 = .ok (.iaload, 1) := by decide +kernel
theorem dX1_decide_27 : decode cX1_decide 27 = .ok (.putfield 140, 3) := by decide +kernel
theorem dX1_decide_30 : decode cX1_decide 30 = .ok (.aload_n 1, 1) := by decide +kernel
theorem dX1_decide_31 : decode cX1_decide 31 = .ok (.iload_n 2, 1) := by decide +kernel
theorem dX1_decide_32 : decode cX1_decide 32 = .ok (.ifCond .eq 11, 3) := by decide +kernel
theorem dX1_decide_35 : decode cX1_decide 35 = .ok (.aload_n 0, 1) := by decide +kernel
theorem dX1_decide_36 : decode cX1_decide 36 = .ok (.aload_n 1, 1) := by decide +kernel
theorem dX1_decide_37 : decode cX1_decide 37 = .ok (.invokevirtual 176, 3) := by decide +kernel
theorem dX1_decide_40 : decode cX1_decide 40 = .ok (.goto 8, 3) := by decide +kernel
theorem dX1_decide_43 : decode cX1_decide 43 = .ok (.aload_n 0, 1) := by decide +kernel
theorem dX1_decide_44 : decode cX1_decide 44 = .ok (.aload_n 1, 1) := by decide +kernel
theorem dX1_decide_45 : decode cX1_decide 45 = .ok (.invokevirtual 180, 3) := by decide +kernel
theorem dX1_decide_48 : decode cX1_decide 48 = .ok (.putfield 134, 3) := by decide +kernel
theorem dX1_decide_51 : decode cX1_decide 51 = .ok (.aload_n 0, 1) := by decide +kernel
theorem dX1_decide_52 : decode cX1_decide 52 = .ok (.getfield 30, 3) := by decide +kernel
theorem dX1_decide_55 : decode cX1_decide 55 = .ok (.aload_n 1, 1) := by decide +kernel
theorem dX1_decide_56 : decode cX1_decide 56 = .ok (.getfield 112, 3) := by decide +kernel
theorem dX1_decide_59 : decode cX1_decide 59 = .ok (.aaload, 1) := by decide +kernel
theorem dX1_decide_60 : decode cX1_decide 60 = .ok (.iconst 0, 1) := by decide +kernel
theorem dX1_decide_61 : decode cX1_decide 61 = .ok (.dup2, 1) := by decide +kernel
theorem dX1_decide_62 : decode cX1_decide 62 = .ok (.iaload, 1) := by decide +kernel
theorem dX1_decide_63 : decode cX1_decide 63 = .ok (.iconst 1, 1) := by decide +kernel
theorem dX1_decide_64 : decode cX1_decide 64 = .ok (.iadd, 1) := by decide +kernel
theorem dX1_decide_65 : decode cX1_decide 65 = .ok (.iastore, 1) := by decide +kernel
theorem dX1_decide_66 : decode cX1_decide 66 = .ok (.aload_n 0, 1) := by decide +kernel
theorem dX1_decide_67 : decode cX1_decide 67 = .ok (.getfield 33, 3) := by decide +kernel
theorem dX1_decide_70 : decode cX1_decide 70 = .ok (.aload_n 1, 1) := by decide +kernel
theorem dX1_decide_71 : decode cX1_decide 71 = .ok (.getfield 115, 3) := by decide +kernel
theorem dX1_decide_74 : decode cX1_decide 74 = .ok (.invokestatic 183, 3) := by decide +kernel
theorem dX1_decide_77 : decode cX1_decide 77 = .ok (.dup2, 1) := by decide +kernel
theorem dX1_decide_78 : decode cX1_decide 78 = .ok (.iaload, 1) := by decide +kernel
theorem dX1_decide_79 : decode cX1_decide 79 = .ok (.iconst 1, 1) := by decide +kernel
theorem dX1_decide_80 : decode cX1_decide 80 = .ok (.iadd, 1) := by decide +kernel
theorem dX1_decide_81 : decode cX1_decide 81 = .ok (.iastore, 1) := by decide +kernel
theorem dX1_decide_82 : decode cX1_decide 82 = .ok (.aload_n 0, 1) := by decide +kernel
theorem dX1_decide_83 : decode cX1_decide 83 = .ok (.getfield 25, 3) := by decide +kernel
theorem dX1_decide_86 : decode cX1_decide 86 = .ok (.bipush 10, 2) := by decide +kernel
theorem dX1_decide_88 : decode cX1_decide 88 = .ok (.dup2, 1) := by decide +kernel
theorem dX1_decide_89 : decode cX1_decide 89 = .ok (.iaload, 1) := by decide +kernel
theorem dX1_decide_90 : decode cX1_decide 90 = .ok (.iconst 1, 1) := by decide +kernel
theorem dX1_decide_91 : decode cX1_decide 91 = .ok (.iadd, 1) := by decide +kernel
theorem dX1_decide_92 : decode cX1_decide 92 = .ok (.iastore, 1) := by decide +kernel
theorem dX1_decide_93 : decode cX1_decide 93 = .ok (.iload_n 2, 1) := by decide +kernel
theorem dX1_decide_94 : decode cX1_decide 94 = .ok (.ifCond .eq 14, 3) := by decide +kernel
theorem dX1_decide_97 : decode cX1_decide 97 = .ok (.aload_n 0, 1) := by decide +kernel
theorem dX1_decide_98 : decode cX1_decide 98 = .ok (.getfield 25, 3) := by decide +kernel
theorem dX1_decide_101 : decode cX1_decide 101 = .ok (.bipush 11, 2) := by decide +kernel
theorem dX1_decide_103 : decode cX1_decide 103 = .ok (.dup2, 1) := by decide +kernel
theorem dX1_decide_104 : decode cX1_decide 104 = .ok (.iaload, 1) := by decide +kernel
theorem dX1_decide_105 : decode cX1_decide 105 = .ok (.iconst 1, 1) := by decide +kernel
theorem dX1_decide_106 : decode cX1_decide 106 = .ok (.iadd, 1) := by decide +kernel
theorem dX1_decide_107 : decode cX1_decide 107 = .ok (.iastore, 1) := by decide +kernel
theorem dX1_decide_108 : decode cX1_decide 108 = .ok (.aload_n 1, 1) := by decide +kernel
theorem dX1_decide_109 : decode cX1_decide 109 = .ok (.getfield 134, 3) := by decide +kernel
theorem dX1_decide_112 : decode cX1_decide 112 = .ok (.ifCond .le 8, 3) := by decide +kernel
theorem dX1_decide_115 : decode cX1_decide 115 = .ok (.aload_n 0, 1) := by decide +kernel
theorem dX1_decide_116 : decode cX1_decide 116 = .ok (.aload_n 1, 1) := by decide +kernel
theorem dX1_decide_117 : decode cX1_decide 117 = .ok (.invokevirtual 186, 3) := by decide +kernel
theorem dX1_decide_120 : decode cX1_decide 120 = .ok (.return_, 1) := by decide +kernel
theorem dX1_keepOrLetFall_0 : decode cX1_keepOrLetFall 0 = .ok (.aload_n 0, 1) := by decide +kernel
theorem dX1_keepOrLetFall_1 : decode cX1_keepOrLetFall 1 = .ok (.getfield 25, 3) := by decide +kernel
theorem dX1_keepOrLetFall_4 : decode cX1_keepOrLetFall 4 = .ok (.iconst 2, 1) := by decide +kernel
theorem dX1_keepOrLetFall_5 : decode cX1_keepOrLetFall 5 = .ok (.iaload, 1) := by decide +kernel
theorem dX1_keepOrLetFall_6 : decode cX1_keepOrLetFall 6 = .ok (.istore_n 2, 1) := by decide +kernel
theorem dX1_keepOrLetFall_7 : decode cX1_keepOrLetFall 7 = .ok (.iload_n 2, 1) := by decide +kernel
theorem dX1_keepOrLetFall_8 : decode cX1_keepOrLetFall 8 = .ok (.bipush 20, 2) := by decide +kernel
theorem dX1_keepOrLetFall_10 : decode cX1_keepOrLetFall 10 = .ok (.if_icmp .lt 22, 3) := by decide +kernel
theorem dX1_keepOrLetFall_13 : decode cX1_keepOrLetFall 13 = .ok (.aload_n 0, 1) := by decide +kernel
theorem dX1_keepOrLetFall_14 : decode cX1_keepOrLetFall 14 = .ok (.getfield 30, 3) := by decide +kernel
theorem dX1_keepOrLetFall_17 : decode cX1_keepOrLetFall 17 = .ok (.aload_n 1, 1) := by decide +kernel
theorem dX1_keepOrLetFall_18 : decode cX1_keepOrLetFall 18 = .ok (.getfield 112, 3) := by decide +kernel
theorem dX1_keepOrLetFall_21 : decode cX1_keepOrLetFall 21 = .ok (.aaload, 1) := by decide +kernel
theorem dX1_keepOrLetFall_22 : decode cX1_keepOrLetFall 22 = .ok (.iconst 3, 1) := by decide +kernel
theorem dX1_keepOrLetFall_23 : decode cX1_keepOrLetFall 23 = .ok (.dup2, 1) := by decide +kernel
theorem dX1_keepOrLetFall_24 : decode cX1_keepOrLetFall 24 = .ok (.iaload, 1) := by decide +kernel
theorem dX1_keepOrLetFall_25 : decode cX1_keepOrLetFall 25 = .ok (.aload_n 1, 1) := by decide +kernel
theorem dX1_keepOrLetFall_26 : decode cX1_keepOrLetFall 26 = .ok (.getfield 134, 3) := by decide +kernel
theorem dX1_keepOrLetFall_29 : decode cX1_keepOrLetFall 29 = .ok (.iadd, 1) := by decide +kernel
theorem dX1_keepOrLetFall_30 : decode cX1_keepOrLetFall 30 = .ok (.iastore, 1) := by decide +kernel
theorem dX1_keepOrLetFall_31 : decode cX1_keepOrLetFall 31 = .ok (.return_, 1) := by decide +kernel
theorem dX1_keepOrLetFall_32 : decode cX1_keepOrLetFall 32 = .ok (.aload_n 0, 1) := by decide +kernel
theorem dX1_keepOrLetFall_33 : decode cX1_keepOrLetFall 33 = .ok (.getfield 45, 3) := by decide +kernel
theorem dX1_keepOrLetFall_36 : decode cX1_keepOrLetFall 36 = .ok (.iload_n 2, 1) := by decide +kernel
theorem dX1_keepOrLetFall_37 : decode cX1_keepOrLetFall 37 = .ok (.aload_n 1, 1) := by decide +kernel
theorem dX1_keepOrLetFall_38 : decode cX1_keepOrLetFall 38 = .ok (.aastore, 1) := by decide +kernel
theorem dX1_keepOrLetFall_39 : decode cX1_keepOrLetFall 39 = .ok (.aload_n 0, 1) := by decide +kernel
theorem dX1_keepOrLetFall_40 : decode cX1_keepOrLetFall 40 = .ok (.getfield 25, 3) := by decide +kernel
theorem dX1_keepOrLetFall_43 : decode cX1_keepOrLetFall 43 = .ok (.iconst 2, 1) := by decide +kernel
theorem dX1_keepOrLetFall_44 : decode cX1_keepOrLetFall 44 = .ok (.dup2, 1) := by decide +kernel
theorem dX1_keepOrLetFall_45 : decode cX1_keepOrLetFall 45 = .ok (.iaload, 1) := by decide +kernel
theorem dX1_keepOrLetFall_46 : decode cX1_keepOrLetFall 46 = .ok (.iconst 1, 1) := by decide +kernel
theorem dX1_keepOrLetFall_47 : decode cX1_keepOrLetFall 47 = .ok (.iadd, 1) := by decide +kernel
theorem dX1_keepOrLetFall_48 : decode cX1_keepOrLetFall 48 = .ok (.iastore, 1) := by decide +kernel
theorem dX1_keepOrLetFall_49 : decode cX1_keepOrLetFall 49 = .ok (.aload_n 1, 1) := by decide +kernel
theorem dX1_keepOrLetFall_50 : decode cX1_keepOrLetFall 50 = .ok (.iconst 1, 1) := by decide +kernel
theorem dX1_keepOrLetFall_51 : decode cX1_keepOrLetFall 51 = .ok (.putfield 124, 3) := by decide +kernel
theorem dX1_keepOrLetFall_54 : decode cX1_keepOrLetFall 54 = .ok (.aload_n 0, 1) := by decide +kernel
theorem dX1_keepOrLetFall_55 : decode cX1_keepOrLetFall 55 = .ok (.getfield 30, 3) := by decide +kernel
theorem dX1_keepOrLetFall_58 : decode cX1_keepOrLetFall 58 = .ok (.aload_n 1, 1) := by decide +kernel
theorem dX1_keepOrLetFall_59 : decode cX1_keepOrLetFall 59 = .ok (.getfield 112, 3) := by decide +kernel
theorem dX1_keepOrLetFall_62 : decode cX1_keepOrLetFall 62 = .ok (.aaload, 1) := by decide +kernel
theorem dX1_keepOrLetFall_63 : decode cX1_keepOrLetFall 63 = .ok (.iconst 1, 1) := by decide +kernel
theorem dX1_keepOrLetFall_64 : decode cX1_keepOrLetFall 64 = .ok (.dup2, 1) := by decide +kernel
theorem dX1_keepOrLetFall_65 : decode cX1_keepOrLetFall 65 = .ok (.iaload, 1) := by decide +kernel
theorem dX1_keepOrLetFall_66 : decode cX1_keepOrLetFall 66 = .ok (.aload_n 1, 1) := by decide +kernel
theorem dX1_keepOrLetFall_67 : decode cX1_keepOrLetFall 67 = .ok (.getfield 134, 3) := by decide +kernel
theorem dX1_keepOrLetFall_70 : decode cX1_keepOrLetFall 70 = .ok (.iadd, 1) := by decide +kernel
theorem dX1_keepOrLetFall_71 : decode cX1_keepOrLetFall 71 = .ok (.iastore, 1) := by decide +kernel
theorem dX1_keepOrLetFall_72 : decode cX1_keepOrLetFall 72 = .ok (.return_, 1) := by decide +kernel
theorem dX1_keptAt_0 : decode cX1_keptAt 0 = .ok (.iload_n 1, 1) := by decide +kernel
theorem dX1_keptAt_1 : decode cX1_keptAt 1 = .ok (.bipush 20, 2) := by decide +kernel
theorem dX1_keptAt_3 : decode cX1_keptAt 3 = .ok (.invokestatic 52, 3) := by decide +kernel
theorem dX1_keptAt_6 : decode cX1_keptAt 6 = .ok (.ifCond .eq 12, 3) := by decide +kernel
theorem dX1_keptAt_9 : decode cX1_keptAt 9 = .ok (.aload_n 0, 1) := by decide +kernel
theorem dX1_keptAt_10 : decode cX1_keptAt 10 = .ok (.getfield 45, 3) := by decide +kernel
theorem dX1_keptAt_13 : decode cX1_keptAt 13 = .ok (.iload_n 1, 1) := by decide +kernel
theorem dX1_keptAt_14 : decode cX1_keptAt 14 = .ok (.aaload, 1) := by decide +kernel
theorem dX1_keptAt_15 : decode cX1_keptAt 15 = .ok (.goto 4, 3) := by decide +kernel
theorem dX1_keptAt_18 : decode cX1_keptAt 18 = .ok (.aconst_null, 1) := by decide +kernel
theorem dX1_keptAt_19 : decode cX1_keptAt 19 = .ok (.areturn, 1) := by decide +kernel
theorem dX1_closeRowAt_0 : decode cX1_closeRowAt 0 = .ok (.iload_n 1, 1) := by decide +kernel
theorem dX1_closeRowAt_1 : decode cX1_closeRowAt 1 = .ok (.istore_n 2, 1) := by decide +kernel
theorem dX1_closeRowAt_2 : decode cX1_closeRowAt 2 = .ok (.iload_n 2, 1) := by decide +kernel
theorem dX1_closeRowAt_3 : decode cX1_closeRowAt 3 = .ok (.bipush 19, 2) := by decide +kernel
theorem dX1_closeRowAt_5 : decode cX1_closeRowAt 5 = .ok (.if_icmp .ge 23, 3) := by decide +kernel
theorem dX1_closeRowAt_8 : decode cX1_closeRowAt 8 = .ok (.aload_n 0, 1) := by decide +kernel
theorem dX1_closeRowAt_9 : decode cX1_closeRowAt 9 = .ok (.getfield 45, 3) := by decide +kernel
theorem dX1_closeRowAt_12 : decode cX1_closeRowAt 12 = .ok (.iload_n 2, 1) := by decide +kernel
theorem dX1_closeRowAt_13 : decode cX1_closeRowAt 13 = .ok (.aload_n 0, 1) := by decide +kernel
theorem dX1_closeRowAt_14 : decode cX1_closeRowAt 14 = .ok (.getfield 45, 3) := by decide +kernel
theorem dX1_closeRowAt_17 : decode cX1_closeRowAt 17 = .ok (.iload_n 2, 1) := by decide +kernel
theorem dX1_closeRowAt_18 : decode cX1_closeRowAt 18 = .ok (.iconst 1, 1) := by decide +kernel
theorem dX1_closeRowAt_19 : decode cX1_closeRowAt 19 = .ok (.iadd, 1) := by decide +kernel
theorem dX1_closeRowAt_20 : decode cX1_closeRowAt 20 = .ok (.aaload, 1) := by decide +kernel
theorem dX1_closeRowAt_21 : decode cX1_closeRowAt 21 = .ok (.aastore, 1) := by decide +kernel
theorem dX1_closeRowAt_22 : decode cX1_closeRowAt 22 = .ok (.iinc 2 1, 3) := by decide +kernel
theorem dX1_closeRowAt_25 : decode cX1_closeRowAt 25 = .ok (.goto (-23), 3) := by decide +kernel
theorem dX1_closeRowAt_28 : decode cX1_closeRowAt 28 = .ok (.aload_n 0, 1) := by decide +kernel
theorem dX1_closeRowAt_29 : decode cX1_closeRowAt 29 = .ok (.getfield 45, 3) := by decide +kernel
theorem dX1_closeRowAt_32 : decode cX1_closeRowAt 32 = .ok (.bipush 19, 2) := by decide +kernel
theorem dX1_closeRowAt_34 : decode cX1_closeRowAt 34 = .ok (.aconst_null, 1) := by decide +kernel
theorem dX1_closeRowAt_35 : decode cX1_closeRowAt 35 = .ok (.aastore, 1) := by decide +kernel
theorem dX1_closeRowAt_36 : decode cX1_closeRowAt 36 = .ok (.aload_n 0, 1) := by decide +kernel
theorem dX1_closeRowAt_37 : decode cX1_closeRowAt 37 = .ok (.getfield 25, 3) := by decide +kernel
theorem dX1_closeRowAt_40 : decode cX1_closeRowAt 40 = .ok (.iconst 2, 1) := by decide +kernel
theorem dX1_closeRowAt_41 : decode cX1_closeRowAt 41 = .ok (.dup2, 1) := by decide +kernel
theorem dX1_closeRowAt_42 : decode cX1_closeRowAt 42 = .ok (.iaload, 1) := by decide +kernel
theorem dX1_closeRowAt_43 : decode cX1_closeRowAt 43 = .ok (.iconst 1, 1) := by decide +kernel
theorem dX1_closeRowAt_44 : decode cX1_closeRowAt 44 = .ok (.isub, 1) := by decide +kernel
theorem dX1_closeRowAt_45 : decode cX1_closeRowAt 45 = .ok (.iastore, 1) := by decide +kernel
theorem dX1_closeRowAt_46 : decode cX1_closeRowAt 46 = .ok (.return_, 1) := by decide +kernel
theorem dX1_weighTorn_0 : decode cX1_weighTorn 0 = .ok (.aload_n 0, 1) := by decide +kernel
theorem dX1_weighTorn_1 : decode cX1_weighTorn 1 = .ok (.dup, 1) := by decide +kernel
theorem dX1_weighTorn_2 : decode cX1_weighTorn 2 = .ok (.getfield 48, 3) := by decide +kernel
theorem dX1_weighTorn_5 : decode cX1_weighTorn 5 = .ok (.ldc2_w 189, 3) := by decide +kernel
theorem dX1_weighTorn_8 : decode cX1_weighTorn 8 = .ok (.ladd, 1) := by decide +kernel
theorem dX1_weighTorn_9 : decode cX1_weighTorn 9 = .ok (.putfield 48, 3) := by decide +kernel
theorem dX1_weighTorn_12 : decode cX1_weighTorn 12 = .ok (.aload_n 0, 1) := by decide +kernel
theorem dX1_weighTorn_13 : decode cX1_weighTorn 13 = .ok (.getfield 22, 3) := by decide +kernel
theorem dX1_weighTorn_16 : decode cX1_weighTorn 16 = .ok (.iconst 3, 1) := by decide +kernel
theorem dX1_weighTorn_17 : decode cX1_weighTorn 17 = .ok (.iaload, 1) := by decide +kernel
theorem dX1_weighTorn_18 : decode cX1_weighTorn 18 = .ok (.ifCond .ne 20, 3) := by decide +kernel
theorem dX1_weighTorn_21 : decode cX1_weighTorn 21 = .ok (.aload_n 0, 1) := by decide +kernel
theorem dX1_weighTorn_22 : decode cX1_weighTorn 22 = .ok (.getfield 30, 3) := by decide +kernel
theorem dX1_weighTorn_25 : decode cX1_weighTorn 25 = .ok (.aload_n 1, 1) := by decide +kernel
theorem dX1_weighTorn_26 : decode cX1_weighTorn 26 = .ok (.getfield 112, 3) := by decide +kernel
theorem dX1_weighTorn_29 : decode cX1_weighTorn 29 = .ok (.aaload, 1) := by decide +kernel
theorem dX1_weighTorn_30 : decode cX1_weighTorn 30 = .ok (.iconst 4, 1) := by decide +kernel
theorem dX1_weighTorn_31 : decode cX1_weighTorn 31 = .ok (.dup2, 1) := by decide +kernel
theorem dX1_weighTorn_32 : decode cX1_weighTorn 32 = .ok (.iaload, 1) := by decide +kernel
theorem dX1_weighTorn_33 : decode cX1_weighTorn 33 = .ok (.iconst 1, 1) := by decide +kernel
theorem dX1_weighTorn_34 : decode cX1_weighTorn 34 = .ok (.iadd, 1) := by decide +kernel
theorem dX1_weighTorn_35 : decode cX1_weighTorn 35 = .ok (.iastore, 1) := by decide +kernel
theorem dX1_weighTorn_36 : decode cX1_weighTorn 36 = .ok (.iconst 0, 1) := by decide +kernel
theorem dX1_weighTorn_37 : decode cX1_weighTorn 37 = .ok (.ireturn, 1) := by decide +kernel
theorem dX1_weighTorn_38 : decode cX1_weighTorn 38 = .ok (.aload_n 0, 1) := by decide +kernel
theorem dX1_weighTorn_39 : decode cX1_weighTorn 39 = .ok (.aload_n 1, 1) := by decide +kernel
theorem dX1_weighTorn_40 : decode cX1_weighTorn 40 = .ok (.invokevirtual 180, 3) := by decide +kernel
theorem dX1_weighTorn_43 : decode cX1_weighTorn 43 = .ok (.ireturn, 1) := by decide +kernel
theorem dX1_weighRare_0 : decode cX1_weighRare 0 = .ok (.aload_n 0, 1) := by decide +kernel
theorem dX1_weighRare_1 : decode cX1_weighRare 1 = .ok (.dup, 1) := by decide +kernel
theorem dX1_weighRare_2 : decode cX1_weighRare 2 = .ok (.getfield 48, 3) := by decide +kernel
theorem dX1_weighRare_5 : decode cX1_weighRare 5 = .ok (.ldc2_w 191, 3) := by decide +kernel
theorem dX1_weighRare_8 : decode cX1_weighRare 8 = .ok (.ladd, 1) := by decide +kernel
theorem dX1_weighRare_9 : decode cX1_weighRare 9 = .ok (.putfield 48, 3) := by decide +kernel
theorem dX1_weighRare_12 : decode cX1_weighRare 12 = .ok (.aload_n 0, 1) := by decide +kernel
theorem dX1_weighRare_13 : decode cX1_weighRare 13 = .ok (.getfield 30, 3) := by decide +kernel
theorem dX1_weighRare_16 : decode cX1_weighRare 16 = .ok (.aload_n 1, 1) := by decide +kernel
theorem dX1_weighRare_17 : decode cX1_weighRare 17 = .ok (.getfield 112, 3) := by decide +kernel
theorem dX1_weighRare_20 : decode cX1_weighRare 20 = .ok (.aaload, 1) := by decide +kernel
theorem dX1_weighRare_21 : decode cX1_weighRare 21 = .ok (.iconst 0, 1) := by decide +kernel
theorem dX1_weighRare_22 : decode cX1_weighRare 22 = .ok (.iaload, 1) := by decide +kernel
theorem dX1_weighRare_23 : decode cX1_weighRare 23 = .ok (.aload_n 0, 1) := by decide +kernel
theorem dX1_weighRare_24 : decode cX1_weighRare 24 = .ok (.getfield 22, 3) := by decide +kernel
theorem dX1_weighRare_27 : decode cX1_weighRare 27 = .ok (.iconst 2, 1) := by decide +kernel
theorem dX1_weighRare_28 : decode cX1_weighRare 28 = .ok (.iaload, 1) := by decide +kernel
theorem dX1_weighRare_29 : decode cX1_weighRare 29 = .ok (.if_icmp .ge 7, 3) := by decide +kernel
theorem dX1_weighRare_32 : decode cX1_weighRare 32 = .ok (.iconst 1, 1) := by decide +kernel
theorem dX1_weighRare_33 : decode cX1_weighRare 33 = .ok (.goto 8, 3) := by decide +kernel
theorem dX1_weighRare_36 : decode cX1_weighRare 36 = .ok (.aload_n 0, 1) := by decide +kernel
theorem dX1_weighRare_37 : decode cX1_weighRare 37 = .ok (.aload_n 1, 1) := by decide +kernel
theorem dX1_weighRare_38 : decode cX1_weighRare 38 = .ok (.invokevirtual 193, 3) := by decide +kernel
theorem dX1_weighRare_41 : decode cX1_weighRare 41 = .ok (.ireturn, 1) := by decide +kernel
theorem dX1_weighLong_0 : decode cX1_weighLong 0 = .ok (.aload_n 0, 1) := by decide +kernel
theorem dX1_weighLong_1 : decode cX1_weighLong 1 = .ok (.dup, 1) := by decide +kernel
theorem dX1_weighLong_2 : decode cX1_weighLong 2 = .ok (.getfield 48, 3) := by decide +kernel
theorem dX1_weighLong_5 : decode cX1_weighLong 5 = .ok (.ldc2_w 196, 3) := by decide +kernel
theorem dX1_weighLong_8 : decode cX1_weighLong 8 = .ok (.ladd, 1) := by decide +kernel
theorem dX1_weighLong_9 : decode cX1_weighLong 9 = .ok (.putfield 48, 3) := by decide +kernel
theorem dX1_weighLong_12 : decode cX1_weighLong 12 = .ok (.aload_n 1, 1) := by decide +kernel
theorem dX1_weighLong_13 : decode cX1_weighLong 13 = .ok (.getfield 115, 3) := by decide +kernel
theorem dX1_weighLong_16 : decode cX1_weighLong 16 = .ok (.aload_n 0, 1) := by decide +kernel
theorem dX1_weighLong_17 : decode cX1_weighLong 17 = .ok (.getfield 22, 3) := by decide +kernel
theorem dX1_weighLong_20 : decode cX1_weighLong 20 = .ok (.iconst 1, 1) := by decide +kernel
theorem dX1_weighLong_21 : decode cX1_weighLong 21 = .ok (.iaload, 1) := by decide +kernel
theorem dX1_weighLong_22 : decode cX1_weighLong 22 = .ok (.if_icmp .lt 7, 3) := by decide +kernel
theorem dX1_weighLong_25 : decode cX1_weighLong 25 = .ok (.iconst 1, 1) := by decide +kernel
theorem dX1_weighLong_26 : decode cX1_weighLong 26 = .ok (.goto 8, 3) := by decide +kernel
theorem dX1_weighLong_29 : decode cX1_weighLong 29 = .ok (.aload_n 0, 1) := by decide +kernel
theorem dX1_weighLong_30 : decode cX1_weighLong 30 = .ok (.aload_n 1, 1) := by decide +kernel
theorem dX1_weighLong_31 : decode cX1_weighLong 31 = .ok (.invokevirtual 198, 3) := by decide +kernel
theorem dX1_weighLong_34 : decode cX1_weighLong 34 = .ok (.ireturn, 1) := by decide +kernel
theorem dX1_weighFair_0 : decode cX1_weighFair 0 = .ok (.aload_n 0, 1) := by decide +kernel
theorem dX1_weighFair_1 : decode cX1_weighFair 1 = .ok (.dup, 1) := by decide +kernel
theorem dX1_weighFair_2 : decode cX1_weighFair 2 = .ok (.getfield 48, 3) := by decide +kernel
theorem dX1_weighFair_5 : decode cX1_weighFair 5 = .ok (.lconst 1, 1) := by decide +kernel
theorem dX1_weighFair_6 : decode cX1_weighFair 6 = .ok (.ladd, 1) := by decide +kernel
theorem dX1_weighFair_7 : decode cX1_weighFair 7 = .ok (.putfield 48, 3) := by decide +kernel
theorem dX1_weighFair_10 : decode cX1_weighFair 10 = .ok (.aload_n 0, 1) := by decide +kernel
theorem dX1_weighFair_11 : decode cX1_weighFair 11 = .ok (.getfield 30, 3) := by decide +kernel
theorem dX1_weighFair_14 : decode cX1_weighFair 14 = .ok (.aload_n 1, 1) := by decide +kernel
theorem dX1_weighFair_15 : decode cX1_weighFair 15 = .ok (.getfield 112, 3) := by decide +kernel
theorem dX1_weighFair_18 : decode cX1_weighFair 18 = .ok (.aaload, 1) := by decide +kernel
theorem dX1_weighFair_19 : decode cX1_weighFair 19 = .ok (.astore_n 2, 1) := by decide +kernel
theorem dX1_weighFair_20 : decode cX1_weighFair 20 = .ok (.aload_n 2, 1) := by decide +kernel
theorem dX1_weighFair_21 : decode cX1_weighFair 21 = .ok (.iconst 5, 1) := by decide +kernel
theorem dX1_weighFair_22 : decode cX1_weighFair 22 = .ok (.dup2, 1) := by decide +kernel
theorem dX1_weighFair_23 : decode cX1_weighFair 23 = .ok (.iaload, 1) := by decide +kernel
theorem dX1_weighFair_24 : decode cX1_weighFair 24 = .ok (.iconst 1, 1) := by decide +kernel
theorem dX1_weighFair_25 : decode cX1_weighFair 25 = .ok (.iadd, 1) := by decide +kernel
theorem dX1_weighFair_26 : decode cX1_weighFair 26 = .ok (.iastore, 1) := by decide +kernel
theorem dX1_weighFair_27 : decode cX1_weighFair 27 = .ok (.aload_n 2, 1) := by decide +kernel
theorem dX1_weighFair_28 : decode cX1_weighFair 28 = .ok (.iconst 5, 1) := by decide +kernel
theorem dX1_weighFair_29 : decode cX1_weighFair 29 = .ok (.iaload, 1) := by decide +kernel
theorem dX1_weighFair_30 : decode cX1_weighFair 30 = .ok (.aload_n 0, 1) := by decide +kernel
theorem dX1_weighFair_31 : decode cX1_weighFair 31 = .ok (.getfield 22, 3) := by decide +kernel
theorem dX1_weighFair_34 : decode cX1_weighFair 34 = .ok (.iconst 0, 1) := by decide +kernel
theorem dX1_weighFair_35 : decode cX1_weighFair 35 = .ok (.iaload, 1) := by decide +kernel
theorem dX1_weighFair_36 : decode cX1_weighFair 36 = .ok (.if_icmp .ge 5, 3) := by decide +kernel
theorem dX1_weighFair_39 : decode cX1_weighFair 39 = .ok (.iconst 0, 1) := by decide +kernel
theorem dX1_weighFair_40 : decode cX1_weighFair 40 = .ok (.ireturn, 1) := by decide +kernel
theorem dX1_weighFair_41 : decode cX1_weighFair 41 = .ok (.aload_n 2, 1) := by decide +kernel
theorem dX1_weighFair_42 : decode cX1_weighFair 42 = .ok (.iconst 5, 1) := by decide +kernel
theorem dX1_weighFair_43 : decode cX1_weighFair 43 = .ok (.iconst 0, 1) := by decide +kernel
theorem dX1_weighFair_44 : decode cX1_weighFair 44 = .ok (.iastore, 1) := by decide +kernel
theorem dX1_weighFair_45 : decode cX1_weighFair 45 = .ok (.aload_n 0, 1) := by decide +kernel
theorem dX1_weighFair_46 : decode cX1_weighFair 46 = .ok (.getfield 22, 3) := by decide +kernel
theorem dX1_weighFair_49 : decode cX1_weighFair 49 = .ok (.iconst 0, 1) := by decide +kernel
theorem dX1_weighFair_50 : decode cX1_weighFair 50 = .ok (.iaload, 1) := by decide +kernel
theorem dX1_weighFair_51 : decode cX1_weighFair 51 = .ok (.ireturn, 1) := by decide +kernel
theorem dX1_stepOf_0 : decode cX1_stepOf 0 = .ok (.iconst 0, 1) := by decide +kernel
theorem dX1_stepOf_1 : decode cX1_stepOf 1 = .ok (.istore_n 1, 1) := by decide +kernel
theorem dX1_stepOf_2 : decode cX1_stepOf 2 = .ok (.iload_n 1, 1) := by decide +kernel
theorem dX1_stepOf_3 : decode cX1_stepOf 3 = .ok (.bipush 13, 2) := by decide +kernel
theorem dX1_stepOf_5 : decode cX1_stepOf 5 = .ok (.if_icmp .ge 16, 3) := by decide +kernel
theorem dX1_stepOf_8 : decode cX1_stepOf 8 = .ok (.iload_n 0, 1) := by decide +kernel
theorem dX1_stepOf_9 : decode cX1_stepOf 9 = .ok (.iconst 1, 1) := by decide +kernel
theorem dX1_stepOf_10 : decode cX1_stepOf 10 = .ok (.iload_n 1, 1) := by decide +kernel
theorem dX1_stepOf_11 : decode cX1_stepOf 11 = .ok (.ishl, 1) := by decide +kernel
theorem dX1_stepOf_12 : decode cX1_stepOf 12 = .ok (.if_icmp .lt 9, 3) := by decide +kernel
theorem dX1_stepOf_15 : decode cX1_stepOf 15 = .ok (.iinc 1 1, 3) := by decide +kernel
theorem dX1_stepOf_18 : decode cX1_stepOf 18 = .ok (.goto (-16), 3) := by decide +kernel
theorem dX1_stepOf_21 : decode cX1_stepOf 21 = .ok (.iload_n 1, 1) := by decide +kernel
theorem dX1_stepOf_22 : decode cX1_stepOf 22 = .ok (.ireturn, 1) := by decide +kernel
theorem dX1_stepOfShare_0 : decode cX1_stepOfShare 0 = .ok (.iload_n 1, 1) := by decide +kernel
theorem dX1_stepOfShare_1 : decode cX1_stepOfShare 1 = .ok (.i2l, 1) := by decide +kernel
theorem dX1_stepOfShare_2 : decode cX1_stepOfShare 2 = .ok (.aload_n 0, 1) := by decide +kernel
theorem dX1_stepOfShare_3 : decode cX1_stepOfShare 3 = .ok (.getfield 25, 3) := by decide +kernel
theorem dX1_stepOfShare_6 : decode cX1_stepOfShare 6 = .ok (.bipush 10, 2) := by decide +kernel
theorem dX1_stepOfShare_8 : decode cX1_stepOfShare 8 = .ok (.iaload, 1) := by decide +kernel
theorem dX1_stepOfShare_9 : decode cX1_stepOfShare 9 = .ok (.i2l, 1) := by decide +kernel
theorem dX1_stepOfShare_10 : decode cX1_stepOfShare 10 = .ok (.lmul, 1) := by decide +kernel
theorem dX1_stepOfShare_11 : decode cX1_stepOfShare 11 = .ok (.lstore_n 3, 1) := by decide +kernel
theorem dX1_stepOfShare_12 : decode cX1_stepOfShare 12 = .ok (.aload_n 0, 1) := by decide +kernel
theorem dX1_stepOfShare_13 : decode cX1_stepOfShare 13 = .ok (.getfield 33, 3) := by decide +kernel
theorem dX1_stepOfShare_16 : decode cX1_stepOfShare 16 = .ok (.iconst 0, 1) := by decide +kernel
theorem dX1_stepOfShare_17 : decode cX1_stepOfShare 17 = .ok (.iaload, 1) := by decide +kernel
theorem dX1_stepOfShare_18 : decode cX1_stepOfShare 18 = .ok (.i2l, 1) := by decide +kernel
theorem dX1_stepOfShare_19 : decode cX1_stepOfShare 19 = .ok (.lstore 5, 2) := by decide +kernel
theorem dX1_stepOfShare_21 : decode cX1_stepOfShare 21 = .ok (.iconst 0, 1) := by decide +kernel
theorem dX1_stepOfShare_22 : decode cX1_stepOfShare 22 = .ok (.istore 7, 2) := by decide +kernel
theorem dX1_stepOfShare_24 : decode cX1_stepOfShare 24 = .ok (.iload 7, 2) := by decide +kernel
theorem dX1_stepOfShare_26 : decode cX1_stepOfShare 26 = .ok (.bipush 13, 2) := by decide +kernel
theorem dX1_stepOfShare_28 : decode cX1_stepOfShare 28 = .ok (.if_icmp .ge 32, 3) := by decide +kernel
theorem dX1_stepOfShare_31 : decode cX1_stepOfShare 31 = .ok (.lload 5, 2) := by decide +kernel
theorem dX1_stepOfShare_33 : decode cX1_stepOfShare 33 = .ok (.iload_n 2, 1) := by decide +kernel
theorem dX1_stepOfShare_34 : decode cX1_stepOfShare 34 = .ok (.i2l, 1) := by decide +kernel
theorem dX1_stepOfShare_35 : decode cX1_stepOfShare 35 = .ok (.lmul, 1) := by decide +kernel
theorem dX1_stepOfShare_36 : decode cX1_stepOfShare 36 = .ok (.lload_n 3, 1) := by decide +kernel
theorem dX1_stepOfShare_37 : decode cX1_stepOfShare 37 = .ok (.lcmp, 1) := by decide +kernel
theorem dX1_stepOfShare_38 : decode cX1_stepOfShare 38 = .ok (.ifCond .ge 22, 3) := by decide +kernel
theorem dX1_stepOfShare_41 : decode cX1_stepOfShare 41 = .ok (.iinc 7 1, 3) := by decide +kernel
theorem dX1_stepOfShare_44 : decode cX1_stepOfShare 44 = .ok (.lload 5, 2) := by decide +kernel
theorem dX1_stepOfShare_46 : decode cX1_stepOfShare 46 = .ok (.aload_n 0, 1) := by decide +kernel
theorem dX1_stepOfShare_47 : decode cX1_stepOfShare 47 = .ok (.getfield 33, 3) := by decide +kernel
theorem dX1_stepOfShare_50 : decode cX1_stepOfShare 50 = .ok (.iload 7, 2) := by decide +kernel
theorem dX1_stepOfShare_52 : decode cX1_stepOfShare 52 = .ok (.iaload, 1) := by decide +kernel
theorem dX1_stepOfShare_53 : decode cX1_stepOfShare 53 = .ok (.i2l, 1) := by decide +kernel
theorem dX1_stepOfShare_54 : decode cX1_stepOfShare 54 = .ok (.ladd, 1) := by decide +kernel
theorem dX1_stepOfShare_55 : decode cX1_stepOfShare 55 = .ok (.lstore 5, 2) := by decide +kernel
theorem dX1_stepOfShare_57 : decode cX1_stepOfShare 57 = .ok (.goto (-33), 3) := by decide +kernel
theorem dX1_stepOfShare_60 : decode cX1_stepOfShare 60 = .ok (.iload 7, 2) := by decide +kernel
theorem dX1_stepOfShare_62 : decode cX1_stepOfShare 62 = .ok (.ireturn, 1) := by decide +kernel
end
section
theorem dX2_init_0 : decode cX2_init 0 = .ok (.aload_n 0, 1) := by decide +kernel
theorem dX2_init_1 : decode cX2_init 1 = .ok (.invokespecial 1, 3) := by decide +kernel
theorem dX2_init_4 : decode cX2_init 4 = .ok (.aload_n 0, 1) := by decide +kernel
theorem dX2_init_5 : decode cX2_init 5 = .ok (.iconst 4, 1) := by decide +kernel
theorem dX2_init_6 : decode cX2_init 6 = .ok (.newarray .boolean, 2) := by decide +kernel
theorem dX2_init_8 : decode cX2_init 8 = .ok (.putfield 7, 3) := by decide +kernel
theorem dX2_init_11 : decode cX2_init 11 = .ok (.aload_n 0, 1) := by decide +kernel
theorem dX2_init_12 : decode cX2_init 12 = .ok (.bipush 6, 2) := by decide +kernel
theorem dX2_init_14 : decode cX2_init 14 = .ok (.newarray .int, 2) := by decide +kernel
theorem dX2_init_16 : decode cX2_init 16 = .ok (.putfield 13, 3) := by decide +kernel
theorem dX2_init_19 : decode cX2_init 19 = .ok (.aload_n 0, 1) := by decide +kernel
theorem dX2_init_20 : decode cX2_init 20 = .ok (.bipush 100, 2) := by decide +kernel
theorem dX2_init_22 : decode cX2_init 22 = .ok (.newarray .int, 2) := by decide +kernel
theorem dX2_init_24 : decode cX2_init 24 = .ok (.putfield 17, 3) := by decide +kernel
theorem dX2_init_27 : decode cX2_init 27 = .ok (.aload_n 0, 1) := by decide +kernel
theorem dX2_init_28 : decode cX2_init 28 = .ok (.bipush 100, 2) := by decide +kernel
theorem dX2_init_30 : decode cX2_init 30 = .ok (.newarray .int, 2) := by decide +kernel
theorem dX2_init_32 : decode cX2_init 32 = .ok (.putfield 20, 3) := by decide +kernel
theorem dX2_init_35 : decode cX2_init 35 = .ok (.aload_n 0, 1) := by decide +kernel
theorem dX2_init_36 : decode cX2_init 36 = .ok (.bipush 100, 2) := by decide +kernel
theorem dX2_init_38 : decode cX2_init 38 = .ok (.newarray .int, 2) := by decide +kernel
theorem dX2_init_40 : decode cX2_init 40 = .ok (.putfield 23, 3) := by decide +kernel
theorem dX2_init_43 : decode cX2_init 43 = .ok (.aload_n 0, 1) := by decide +kernel
theorem dX2_init_44 : decode cX2_init 44 = .ok (.bipush 100, 2) := by decide +kernel
theorem dX2_init_46 : decode cX2_init 46 = .ok (.newarray .int, 2) := by decide +kernel
theorem dX2_init_48 : decode cX2_init 48 = .ok (.putfield 26, 3) := by decide +kernel
theorem dX2_init_51 : decode cX2_init 51 = .ok (.aload_n 0, 1) := by decide +kernel
theorem dX2_init_52 : decode cX2_init 52 = .ok (.bipush 100, 2) := by decide +kernel
theorem dX2_init_54 : decode cX2_init 54 = .ok (.newarray .int, 2) := by decide +kernel
theorem dX2_init_56 : decode cX2_init 56 = .ok (.putfield 29, 3) := by decide +kernel
theorem dX2_init_59 : decode cX2_init 59 = .ok (.aload_n 0, 1) := by decide +kernel
theorem dX2_init_60 : decode cX2_init 60 = .ok (.bipush 100, 2) := by decide +kernel
theorem dX2_init_62 : decode cX2_init 62 = .ok (.newarray .int, 2) := by decide +kernel
theorem dX2_init_64 : decode cX2_init 64 = .ok (.putfield 32, 3) := by decide +kernel
theorem dX2_init_67 : decode cX2_init 67 = .ok (.aload_n 0, 1) := by decide +kernel
theorem dX2_init_68 : decode cX2_init 68 = .ok (.bipush 100, 2) := by decide +kernel
theorem dX2_init_70 : decode cX2_init 70 = .ok (.newarray .int, 2) := by decide +kernel
theorem dX2_init_72 : decode cX2_init 72 = .ok (.putfield 35, 3) := by decide +kernel
theorem dX2_init_75 : decode cX2_init 75 = .ok (.aload_n 0, 1) := by decide +kernel
theorem dX2_init_76 : decode cX2_init 76 = .ok (.bipush 100, 2) := by decide +kernel
theorem dX2_init_78 : decode cX2_init 78 = .ok (.newarray .int, 2) := by decide +kernel
theorem dX2_init_80 : decode cX2_init 80 = .ok (.putfield 38, 3) := by decide +kernel
theorem dX2_init_83 : decode cX2_init 83 = .ok (.aload_n 0, 1) := by decide +kernel
theorem dX2_init_84 : decode cX2_init 84 = .ok (.sipush 160, 3) := by decide +kernel
theorem dX2_init_87 : decode cX2_init 87 = .ok (.newarray .int, 2) := by decide +kernel
theorem dX2_init_89 : decode cX2_init 89 = .ok (.putfield 41, 3) := by decide +kernel
theorem dX2_init_92 : decode cX2_init 92 = .ok (.aload_n 0, 1) := by decide +kernel
theorem dX2_init_93 : decode cX2_init 93 = .ok (.bipush 35, 2) := by decide +kernel
theorem dX2_init_95 : decode cX2_init 95 = .ok (.newarray .int, 2) := by decide +kernel
theorem dX2_init_97 : decode cX2_init 97 = .ok (.putfield 44, 3) := by decide +kernel
theorem dX2_init_100 : decode cX2_init 100 = .ok (.aload_n 0, 1) := by decide +kernel
theorem dX2_init_101 : decode cX2_init 101 = .ok (.bipush 14, 2) := by decide +kernel
theorem dX2_init_103 : decode cX2_init 103 = .ok (.newarray .int, 2) := by decide +kernel
theorem dX2_init_105 : decode cX2_init 105 = .ok (.putfield 47, 3) := by decide +kernel
theorem dX2_init_108 : decode cX2_init 108 = .ok (.aload_n 0, 1) := by decide +kernel
theorem dX2_init_109 : decode cX2_init 109 = .ok (.bipush 13, 2) := by decide +kernel
theorem dX2_init_111 : decode cX2_init 111 = .ok (.newarray .int, 2) := by decide +kernel
theorem dX2_init_113 : decode cX2_init 113 = .ok (.putfield 50, 3) := by decide +kernel
theorem dX2_init_116 : decode cX2_init 116 = .ok (.aload_n 0, 1) := by decide +kernel
theorem dX2_init_117 : decode cX2_init 117 = .ok (.getfield 13, 3) := by decide +kernel
theorem dX2_init_120 : decode cX2_init 120 = .ok (.iconst 0, 1) := by decide +kernel
theorem dX2_init_121 : decode cX2_init 121 = .ok (.iconst 3, 1) := by decide +kernel
theorem dX2_init_122 : decode cX2_init 122 = .ok (.iastore, 1) := by decide +kernel
theorem dX2_init_123 : decode cX2_init 123 = .ok (.aload_n 0, 1) := by decide +kernel
theorem dX2_init_124 : decode cX2_init 124 = .ok (.getfield 13, 3) := by decide +kernel
theorem dX2_init_127 : decode cX2_init 127 = .ok (.iconst 1, 1) := by decide +kernel
theorem dX2_init_128 : decode cX2_init 128 = .ok (.sipush 1000, 3) := by decide +kernel
theorem dX2_init_131 : decode cX2_init 131 = .ok (.iastore, 1) := by decide +kernel
theorem dX2_init_132 : decode cX2_init 132 = .ok (.aload_n 0, 1) := by decide +kernel
theorem dX2_init_133 : decode cX2_init 133 = .ok (.getfield 13, 3) := by decide +kernel
theorem dX2_init_136 : decode cX2_init 136 = .ok (.iconst 2, 1) := by decide +kernel
theorem dX2_init_137 : decode cX2_init 137 = .ok (.iconst 2, 1) := by decide +kernel
theorem dX2_init_138 : decode cX2_init 138 = .ok (.iastore, 1) := by decide +kernel
theorem dX2_init_139 : decode cX2_init 139 = .ok (.aload_n 0, 1) := by decide +kernel
theorem dX2_init_140 : decode cX2_init 140 = .ok (.getfield 13, 3) := by decide +kernel
theorem dX2_init_143 : decode cX2_init 143 = .ok (.iconst 3, 1) := by decide +kernel
theorem dX2_init_144 : decode cX2_init 144 = .ok (.iconst 1, 1) := by decide +kernel
theorem dX2_init_145 : decode cX2_init 145 = .ok (.iastore, 1) := by decide +kernel
theorem dX2_init_146 : decode cX2_init 146 = .ok (.aload_n 0, 1) := by decide +kernel
theorem dX2_init_147 : decode cX2_init 147 = .ok (.getfield 13, 3) := by decide +kernel
theorem dX2_init_150 : decode cX2_init 150 = .ok (.iconst 4, 1) := by decide +kernel
theorem dX2_init_151 : decode cX2_init 151 = .ok (.iconst 5, 1) := by decide +kernel
theorem dX2_init_152 : decode cX2_init 152 = .ok (.iastore, 1) := by decide +kernel
theorem dX2_init_153 : decode cX2_init 153 = .ok (.aload_n 0, 1) := by decide +kernel
theorem dX2_init_154 : decode cX2_init 154 = .ok (.getfield 13, 3) := by decide +kernel
theorem dX2_init_157 : decode cX2_init 157 = .ok (.iconst 5, 1) := by decide +kernel
theorem dX2_init_158 : decode cX2_init 158 = .ok (.iconst 3, 1) := by decide +kernel
theorem dX2_init_159 : decode cX2_init 159 = .ok (.iastore, 1) := by decide +kernel
theorem dX2_init_160 : decode cX2_init 160 = .ok (.iconst 0, 1) := by decide +kernel
theorem dX2_init_161 : decode cX2_init 161 = .ok (.istore_n 1, 1) := by decide +kernel
theorem dX2_init_162 : decode cX2_init 162 = .ok (.iload_n 1, 1) := by decide +kernel
theorem dX2_init_163 : decode cX2_init 163 = .ok (.bipush 100, 2) := by decide +kernel
theorem dX2_init_165 : decode cX2_init 165 = .ok (.if_icmp .ge 17, 3) := by decide +kernel
theorem dX2_init_168 : decode cX2_init 168 = .ok (.aload_n 0, 1) := by decide +kernel
theorem dX2_init_169 : decode cX2_init 169 = .ok (.getfield 17, 3) := by decide +kernel
theorem dX2_init_172 : decode cX2_init 172 = .ok (.iload_n 1, 1) := by decide +kernel
theorem dX2_init_173 : decode cX2_init 173 = .ok (.bipush (-9), 2) := by decide +kernel
theorem dX2_init_175 : decode cX2_init 175 = .ok (.iastore, 1) := by decide +kernel
theorem dX2_init_176 : decode cX2_init 176 = .ok (.iinc 1 1, 3) := by decide +kernel
theorem dX2_init_179 : decode cX2_init 179 = .ok (.goto (-17), 3) := by decide +kernel
theorem dX2_init_182 : decode cX2_init 182 = .ok (.return_, 1) := by decide +kernel
theorem dX2_in_0 : decode cX2_in 0 = .ok (.iload_n 0, 1) := by decide +kernel
theorem dX2_in_1 : decode cX2_in 1 = .ok (.iload_n 1, 1) := by decide +kernel
theorem dX2_in_2 : decode cX2_in 2 = .ok (.if_icmp .lt 12, 3) := by decide +kernel
theorem dX2_in_5 : decode cX2_in 5 = .ok (.iload_n 0, 1) := by decide +kernel
theorem dX2_in_6 : decode cX2_in 6 = .ok (.iload_n 2, 1) := by decide +kernel
theorem dX2_in_7 : decode cX2_in 7 = .ok (.if_icmp .gt 7, 3) := by decide +kernel
theorem dX2_in_10 : decode cX2_in 10 = .ok (.iconst 1, 1) := by decide +kernel
theorem dX2_in_11 : decode cX2_in 11 = .ok (.goto 4, 3) := by decide +kernel
theorem dX2_in_14 : decode cX2_in 14 = .ok (.iconst 0, 1) := by decide +kernel
theorem dX2_in_15 : decode cX2_in 15 = .ok (.ireturn, 1) := by decide +kernel
theorem dX2_homeOf_0 : decode cX2_homeOf 0 = .ok (.bipush (-9), 2) := by decide +kernel
theorem dX2_homeOf_2 : decode cX2_homeOf 2 = .ok (.istore_n 2, 1) := by decide +kernel
theorem dX2_homeOf_3 : decode cX2_homeOf 3 = .ok (.iconst (-1), 1) := by decide +kernel
theorem dX2_homeOf_4 : decode cX2_homeOf 4 = .ok (.istore_n 3, 1) := by decide +kernel
theorem dX2_homeOf_5 : decode cX2_homeOf 5 = .ok (.iconst 0, 1) := by decide +kernel
theorem dX2_homeOf_6 : decode cX2_homeOf 6 = .ok (.istore 4, 2) := by decide +kernel
theorem dX2_homeOf_8 : decode cX2_homeOf 8 = .ok (.iload 4, 2) := by decide +kernel
theorem dX2_homeOf_10 : decode cX2_homeOf 10 = .ok (.iconst 4, 1) := by decide +kernel
theorem dX2_homeOf_11 : decode cX2_homeOf 11 = .ok (.if_icmp .ge 45, 3) := by decide +kernel
theorem dX2_homeOf_14 : decode cX2_homeOf 14 = .ok (.bipush 7, 2) := by decide +kernel
theorem dX2_homeOf_16 : decode cX2_homeOf 16 = .ok (.iload_n 1, 1) := by decide +kernel
theorem dX2_homeOf_17 : decode cX2_homeOf 17 = .ok (.imul, 1) := by decide +kernel
theorem dX2_homeOf_18 : decode cX2_homeOf 18 = .ok (.iconst 5, 1) := by decide +kernel
theorem dX2_homeOf_19 : decode cX2_homeOf 19 = .ok (.iload 4, 2) := by decide +kernel
theorem dX2_homeOf_21 : decode cX2_homeOf 21 = .ok (.imul, 1) := by decide +kernel
theorem dX2_homeOf_22 : decode cX2_homeOf 22 = .ok (.iadd, 1) := by decide +kernel
theorem dX2_homeOf_23 : decode cX2_homeOf 23 = .ok (.bipush 11, 2) := by decide +kernel
theorem dX2_homeOf_25 : decode cX2_homeOf 25 = .ok (.irem, 1) := by decide +kernel
theorem dX2_homeOf_26 : decode cX2_homeOf 26 = .ok (.istore 5, 2) := by decide +kernel
theorem dX2_homeOf_28 : decode cX2_homeOf 28 = .ok (.aload_n 0, 1) := by decide +kernel
theorem dX2_homeOf_29 : decode cX2_homeOf 29 = .ok (.getfield 7, 3) := by decide +kernel
theorem dX2_homeOf_32 : decode cX2_homeOf 32 = .ok (.iload 4, 2) := by decide +kernel
theorem dX2_homeOf_34 : decode cX2_homeOf 34 = .ok (.baload, 1) := by decide +kernel
theorem dX2_homeOf_35 : decode cX2_homeOf 35 = .ok (.ifCond .ne 15, 3) := by decide +kernel
theorem dX2_homeOf_38 : decode cX2_homeOf 38 = .ok (.iload 5, 2) := by decide +kernel
theorem dX2_homeOf_40 : decode cX2_homeOf 40 = .ok (.iload_n 3, 1) := by decide +kernel
theorem dX2_homeOf_41 : decode cX2_homeOf 41 = .ok (.if_icmp .le 9, 3) := by decide +kernel
theorem dX2_homeOf_44 : decode cX2_homeOf 44 = .ok (.iload 4, 2) := by decide +kernel
theorem dX2_homeOf_46 : decode cX2_homeOf 46 = .ok (.istore_n 2, 1) := by decide +kernel
theorem dX2_homeOf_47 : decode cX2_homeOf 47 = .ok (.iload 5, 2) := by decide +kernel
theorem dX2_homeOf_49 : decode cX2_homeOf 49 = .ok (.istore_n 3, 1) := by decide +kernel
theorem dX2_homeOf_50 : decode cX2_homeOf 50 = .ok (.iinc 4 1, 3) := by decide +kernel
theorem dX2_homeOf_53 : decode cX2_homeOf 53 = .ok (.goto (-45), 3) := by decide +kernel
theorem dX2_homeOf_56 : decode cX2_homeOf 56 = .ok (.iload_n 2, 1) := by decide +kernel
theorem dX2_homeOf_57 : decode cX2_homeOf 57 = .ok (.ireturn, 1) := by decide +kernel
theorem dX2_keeper_0 : decode cX2_keeper 0 = .ok (.aload_n 0, 1) := by decide +kernel
theorem dX2_keeper_1 : decode cX2_keeper 1 = .ok (.iconst 0, 1) := by decide +kernel
theorem dX2_keeper_2 : decode cX2_keeper 2 = .ok (.putfield 53, 3) := by decide +kernel
theorem dX2_keeper_5 : decode cX2_keeper 5 = .ok (.iload_n 1, 1) := by decide +kernel
theorem dX2_keeper_6 : decode cX2_keeper 6 = .ok (.iconst 0, 1) := by decide +kernel
theorem dX2_keeper_7 : decode cX2_keeper 7 = .ok (.iconst 3, 1) := by decide +kernel
theorem dX2_keeper_8 : decode cX2_keeper 8 = .ok (.invokestatic 57, 3) := by decide +kernel
theorem dX2_keeper_11 : decode cX2_keeper 11 = .ok (.ifCond .ne 5, 3) := by decide +kernel
theorem dX2_keeper_14 : decode cX2_keeper 14 = .ok (.iconst (-1), 1) := by decide +kernel
theorem dX2_keeper_15 : decode cX2_keeper 15 = .ok (.ireturn, 1) := by decide +kernel
theorem dX2_keeper_16 : decode cX2_keeper 16 = .ok (.aload_n 0, 1) := by decide +kernel
theorem dX2_keeper_17 : decode cX2_keeper 17 = .ok (.getfield 7, 3) := by decide +kernel
theorem dX2_keeper_20 : decode cX2_keeper 20 = .ok (.iload_n 1, 1) := by decide +kernel
theorem dX2_keeper_21 : decode cX2_keeper 21 = .ok (.baload, 1) := by decide +kernel
theorem dX2_keeper_22 : decode cX2_keeper 22 = .ok (.iload_n 2, 1) := by decide +kernel
theorem dX2_keeper_23 : decode cX2_keeper 23 = .ok (.if_icmp .eq 5, 3) := by decide +kernel
theorem dX2_keeper_26 : decode cX2_keeper 26 = .ok (.iconst 0, 1) := by decide +kernel
theorem dX2_keeper_27 : decode cX2_keeper 27 = .ok (.ireturn, 1) := by decide +kernel
theorem dX2_keeper_28 : decode cX2_keeper 28 = .ok (.aload_n 0, 1) := by decide +kernel
theorem dX2_keeper_29 : decode cX2_keeper 29 = .ok (.getfield 7, 3) := by decide +kernel
theorem dX2_keeper_32 : decode cX2_keeper 32 = .ok (.iload_n 1, 1) := by decide +kernel
theorem dX2_keeper_33 : decode cX2_keeper 33 = .ok (.iload_n 2, 1) := by decide +kernel
theorem dX2_keeper_34 : decode cX2_keeper 34 = .ok (.ifCond .ne 7, 3) := by decide +kernel
theorem dX2_keeper_37 : decode cX2_keeper 37 = .ok (.iconst 1, 1) := by decide +kernel
theorem dX2_keeper_38 : decode cX2_keeper 38 = .ok (.goto 4, 3) := by decide +kernel
theorem dX2_keeper_41 : decode cX2_keeper 41 = .ok (.iconst 0, 1) := by decide +kernel
theorem dX2_keeper_42 : decode cX2_keeper 42 = .ok (.bastore, 1) := by decide +kernel
theorem dX2_keeper_43 : decode cX2_keeper 43 = .ok (.iconst 0, 1) := by decide +kernel
theorem dX2_keeper_44 : decode cX2_keeper 44 = .ok (.istore_n 3, 1) := by decide +kernel
theorem dX2_keeper_45 : decode cX2_keeper 45 = .ok (.iload_n 3, 1) := by decide +kernel
theorem dX2_keeper_46 : decode cX2_keeper 46 = .ok (.bipush 100, 2) := by decide +kernel
theorem dX2_keeper_48 : decode cX2_keeper 48 = .ok (.if_icmp .ge 87, 3) := by decide +kernel
theorem dX2_keeper_51 : decode cX2_keeper 51 = .ok (.aload_n 0, 1) := by decide +kernel
theorem dX2_keeper_52 : decode cX2_keeper 52 = .ok (.getfield 17, 3) := by decide +kernel
theorem dX2_keeper_55 : decode cX2_keeper 55 = .ok (.iload_n 3, 1) := by decide +kernel
theorem dX2_keeper_56 : decode cX2_keeper 56 = .ok (.iaload, 1) := by decide +kernel
theorem dX2_keeper_57 : decode cX2_keeper 57 = .ok (.iload_n 1, 1) := by decide +kernel
theorem dX2_keeper_58 : decode cX2_keeper 58 = .ok (.if_icmp .ne 25, 3) := by decide +kernel
theorem dX2_keeper_61 : decode cX2_keeper 61 = .ok (.iload_n 2, 1) := by decide +kernel
theorem dX2_keeper_62 : decode cX2_keeper 62 = .ok (.ifCond .ne 21, 3) := by decide +kernel
theorem dX2_keeper_65 : decode cX2_keeper 65 = .ok (.aload_n 0, 1) := by decide +kernel
theorem dX2_keeper_66 : decode cX2_keeper 66 = .ok (.getfield 17, 3) := by decide +kernel
theorem dX2_keeper_69 : decode cX2_keeper 69 = .ok (.iload_n 3, 1) := by decide +kernel
theorem dX2_keeper_70 : decode cX2_keeper 70 = .ok (.bipush (-9), 2) := by decide +kernel
theorem dX2_keeper_72 : decode cX2_keeper 72 = .ok (.iastore, 1) := by decide +kernel
theorem dX2_keeper_73 : decode cX2_keeper 73 = .ok (.aload_n 0, 1) := by decide +kernel
theorem dX2_keeper_74 : decode cX2_keeper 74 = .ok (.getfield 50, 3) := by decide +kernel
theorem dX2_keeper_77 : decode cX2_keeper 77 = .ok (.iconst 3, 1) := by decide +kernel
theorem dX2_keeper_78 : decode cX2_keeper 78 = .ok (.dup2, 1) := by decide +kernel
theorem dX2_keeper_79 : decode cX2_keeper 79 = .ok (.iaload, 1) := by decide +kernel
theorem dX2_keeper_80 : decode cX2_keeper 80 = .ok (.iconst 1, 1) := by decide +kernel
theorem dX2_keeper_81 : decode cX2_keeper 81 = .ok (.iadd, 1) := by decide +kernel
theorem dX2_keeper_82 : decode cX2_keeper 82 = .ok (.iastore, 1) := by decide +kernel
theorem dX2_keeper_83 : decode cX2_keeper 83 = .ok (.aload_n 0, 1) := by decide +kernel
theorem dX2_keeper_84 : decode cX2_keeper 84 = .ok (.getfield 17, 3) := by decide +kernel
theorem dX2_keeper_87 : decode cX2_keeper 87 = .ok (.iload_n 3, 1) := by decide +kernel
theorem dX2_keeper_88 : decode cX2_keeper 88 = .ok (.iaload, 1) := by decide +kernel
theorem dX2_keeper_89 : decode cX2_keeper 89 = .ok (.bipush (-9), 2) := by decide +kernel
theorem dX2_keeper_91 : decode cX2_keeper 91 = .ok (.if_icmp .eq 38, 3) := by decide +kernel
theorem dX2_keeper_94 : decode cX2_keeper 94 = .ok (.aload_n 0, 1) := by decide +kernel
theorem dX2_keeper_95 : decode cX2_keeper 95 = .ok (.getfield 17, 3) := by decide +kernel
theorem dX2_keeper_98 : decode cX2_keeper 98 = .ok (.iload_n 3, 1) := by decide +kernel
theorem dX2_keeper_99 : decode cX2_keeper 99 = .ok (.iaload, 1) := by decide +kernel
theorem dX2_keeper_100 : decode cX2_keeper 100 = .ok (.aload_n 0, 1) := by decide +kernel
theorem dX2_keeper_101 : decode cX2_keeper 101 = .ok (.iload_n 3, 1) := by decide +kernel
theorem dX2_keeper_102 : decode cX2_keeper 102 = .ok (.invokevirtual 61, 3) := by decide +kernel
theorem dX2_keeper_105 : decode cX2_keeper 105 = .ok (.if_icmp .eq 24, 3) := by decide +kernel
theorem dX2_keeper_108 : decode cX2_keeper 108 = .ok (.aload_n 0, 1) := by decide +kernel
theorem dX2_keeper_109 : decode cX2_keeper 109 = .ok (.getfield 17, 3) := by decide +kernel
theorem dX2_keeper_112 : decode cX2_keeper 112 = .ok (.iload_n 3, 1) := by decide +kernel
theorem dX2_keeper_113 : decode cX2_keeper 113 = .ok (.aload_n 0, 1) := by decide +kernel
theorem dX2_keeper_114 : decode cX2_keeper 114 = .ok (.iload_n 3, 1) := by decide +kernel
theorem dX2_keeper_115 : decode cX2_keeper 115 = .ok (.invokevirtual 61, 3) := by decide +kernel
theorem dX2_keeper_118 : decode cX2_keeper 118 = .ok (.iastore, 1) := by decide +kernel
theorem dX2_keeper_119 : decode cX2_keeper 119 = .ok (.aload_n 0, 1) := by decide +kernel
theorem dX2_keeper_120 : decode cX2_keeper 120 = .ok (.getfield 50, 3) := by decide +kernel
theorem dX2_keeper_123 : decode cX2_keeper 123 = .ok (.iconst 4, 1) := by decide +kernel
theorem dX2_keeper_124 : decode cX2_keeper 124 = .ok (.dup2, 1) := by decide +kernel
theorem dX2_keeper_125 : decode cX2_keeper 125 = .ok (.iaload, 1) := by decide +kernel
theorem dX2_keeper_126 : decode cX2_keeper 126 = .ok (.iconst 1, 1) := by decide +kernel
theorem dX2_keeper_127 : decode cX2_keeper 127 = .ok (.iadd, 1) := by decide +kernel
theorem dX2_keeper_128 : decode cX2_keeper 128 = .ok (.iastore, 1) := by decide +kernel
theorem dX2_keeper_129 : decode cX2_keeper 129 = .ok (.iinc 3 1, 3) := by decide +kernel
theorem dX2_keeper_132 : decode cX2_keeper 132 = .ok (.goto (-87), 3) := by decide +kernel
theorem dX2_keeper_135 : decode cX2_keeper 135 = .ok (.iconst 1, 1) := by decide +kernel
theorem dX2_keeper_136 : decode cX2_keeper 136 = .ok (.ireturn, 1) := by decide +kernel
theorem dX2_home_0 : decode cX2_home 0 = .ok (.aload_n 0, 1) := by decide +kernel
theorem dX2_home_1 : decode cX2_home 1 = .ok (.iconst 0, 1) := by decide +kernel
theorem dX2_home_2 : decode cX2_home 2 = .ok (.putfield 53, 3) := by decide +kernel
theorem dX2_home_5 : decode cX2_home 5 = .ok (.iload_n 1, 1) := by decide +kernel
theorem dX2_home_6 : decode cX2_home 6 = .ok (.iconst 0, 1) := by decide +kernel
theorem dX2_home_7 : decode cX2_home 7 = .ok (.bipush 99, 2) := by decide +kernel
theorem dX2_home_9 : decode cX2_home 9 = .ok (.invokestatic 57, 3) := by decide +kernel
theorem dX2_home_12 : decode cX2_home 12 = .ok (.ifCond .eq 11, 3) := by decide +kernel
theorem dX2_home_15 : decode cX2_home 15 = .ok (.aload_n 0, 1) := by decide +kernel
theorem dX2_home_16 : decode cX2_home 16 = .ok (.iload_n 1, 1) := by decide +kernel
theorem dX2_home_17 : decode cX2_home 17 = .ok (.invokevirtual 61, 3) := by decide +kernel
theorem dX2_home_20 : decode cX2_home 20 = .ok (.goto 4, 3) := by decide +kernel
theorem dX2_home_23 : decode cX2_home 23 = .ok (.iconst (-1), 1) := by decide +kernel
theorem dX2_home_24 : decode cX2_home 24 = .ok (.ireturn, 1) := by decide +kernel
theorem dX2_set_0 : decode cX2_set 0 = .ok (.aload_n 0, 1) := by decide +kernel
theorem dX2_set_1 : decode cX2_set 1 = .ok (.iconst 0, 1) := by decide +kernel
theorem dX2_set_2 : decode cX2_set 2 = .ok (.putfield 53, 3) := by decide +kernel
theorem dX2_set_5 : decode cX2_set 5 = .ok (.iload_n 1, 1) := by decide +kernel
theorem dX2_set_6 : decode cX2_set 6 = .ok (.ifCond .ne 13, 3) := by decide +kernel
theorem dX2_set_9 : decode cX2_set 9 = .ok (.iload_n 2, 1) := by decide +kernel
theorem dX2_set_10 : decode cX2_set 10 = .ok (.iconst 1, 1) := by decide +kernel
theorem dX2_set_11 : decode cX2_set 11 = .ok (.bipush 9, 2) := by decide +kernel
theorem dX2_set_13 : decode cX2_set 13 = .ok (.invokestatic 57, 3) := by decide +kernel
theorem dX2_set_16 : decode cX2_set 16 = .ok (.goto 83, 3) := by decide +kernel
theorem dX2_set_19 : decode cX2_set 19 = .ok (.iload_n 1, 1) := by decide +kernel
theorem dX2_set_20 : decode cX2_set 20 = .ok (.iconst 1, 1) := by decide +kernel
theorem dX2_set_21 : decode cX2_set 21 = .ok (.if_icmp .ne 14, 3) := by decide +kernel
theorem dX2_set_24 : decode cX2_set 24 = .ok (.iload_n 2, 1) := by decide +kernel
theorem dX2_set_25 : decode cX2_set 25 = .ok (.iconst 1, 1) := by decide +kernel
theorem dX2_set_26 : decode cX2_set 26 = .ok (.sipush 8000, 3) := by decide +kernel
theorem dX2_set_29 : decode cX2_set 29 = .ok (.invokestatic 57, 3) := by decide +kernel
theorem dX2_set_32 : decode cX2_set 32 = .ok (.goto 67, 3) := by decide +kernel
theorem dX2_set_35 : decode cX2_set 35 = .ok (.iload_n 1, 1) := by decide +kernel
theorem dX2_set_36 : decode cX2_set 36 = .ok (.iconst 2, 1) := by decide +kernel
theorem dX2_set_37 : decode cX2_set 37 = .ok (.if_icmp .ne 13, 3) := by decide +kernel
theorem dX2_set_40 : decode cX2_set 40 = .ok (.iload_n 2, 1) := by decide +kernel
theorem dX2_set_41 : decode cX2_set 41 = .ok (.iconst 0, 1) := by decide +kernel
theorem dX2_set_42 : decode cX2_set 42 = .ok (.bipush 9, 2) := by decide +kernel
theorem dX2_set_44 : decode cX2_set 44 = .ok (.invokestatic 57, 3) := by decide +kernel
theorem dX2_set_47 : decode cX2_set 47 = .ok (.goto 52, 3) := by decide +kernel
theorem dX2_set_50 : decode cX2_set 50 = .ok (.iload_n 1, 1) := by decide +kernel
theorem dX2_set_51 : decode cX2_set 51 = .ok (.iconst 3, 1) := by decide +kernel
theorem dX2_set_52 : decode cX2_set 52 = .ok (.if_icmp .ne 12, 3) := by decide +kernel
theorem dX2_set_55 : decode cX2_set 55 = .ok (.iload_n 2, 1) := by decide +kernel
theorem dX2_set_56 : decode cX2_set 56 = .ok (.iconst 0, 1) := by decide +kernel
theorem dX2_set_57 : decode cX2_set 57 = .ok (.iconst 1, 1) := by decide +kernel
theorem dX2_set_58 : decode cX2_set 58 = .ok (.invokestatic 57, 3) := by decide +kernel
theorem dX2_set_61 : decode cX2_set 61 = .ok (.goto 38, 3) := by decide +kernel
theorem dX2_set_64 : decode cX2_set 64 = .ok (.iload_n 1, 1) := by decide +kernel
theorem dX2_set_65 : decode cX2_set 65 = .ok (.iconst 4, 1) := by decide +kernel
theorem dX2_set_66 : decode cX2_set 66 = .ok (.if_icmp .ne 13, 3) := by decide +kernel
theorem dX2_set_69 : decode cX2_set 69 = .ok (.iload_n 2, 1) := by decide +kernel
theorem dX2_set_70 : decode cX2_set 70 = .ok (.iconst 1, 1) := by decide +kernel
theorem dX2_set_71 : decode cX2_set 71 = .ok (.bipush 20, 2) := by decide +kernel
theorem dX2_set_73 : decode cX2_set 73 = .ok (.invokestatic 57, 3) := by decide +kernel
theorem dX2_set_76 : decode cX2_set 76 = .ok (.goto 23, 3) := by decide +kernel
theorem dX2_set_79 : decode cX2_set 79 = .ok (.iload_n 1, 1) := by decide +kernel
theorem dX2_set_80 : decode cX2_set 80 = .ok (.iconst 5, 1) := by decide +kernel
theorem dX2_set_81 : decode cX2_set 81 = .ok (.if_icmp .ne 17, 3) := by decide +kernel
theorem dX2_set_84 : decode cX2_set 84 = .ok (.iload_n 2, 1) := by decide +kernel
theorem dX2_set_85 : decode cX2_set 85 = .ok (.iconst 0, 1) := by decide +kernel
theorem dX2_set_86 : decode cX2_set 86 = .ok (.bipush 20, 2) := by decide +kernel
theorem dX2_set_88 : decode cX2_set 88 = .ok (.invokestatic 57, 3) := by decide +kernel
theorem dX2_set_91 : decode cX2_set 91 = .ok (.ifCond .eq 7, 3) := by decide +kernel
theorem dX2_set_94 : decode cX2_set 94 = .ok (.iconst 1, 1) := by decide +kernel
theorem dX2_set_95 : decode cX2_set 95 = .ok (.goto 4, 3) := by decide +kernel
theorem dX2_set_98 : decode cX2_set 98 = .ok (.iconst 0, 1) := by decide +kernel
theorem dX2_set_99 : decode cX2_set 99 = .ok (.istore_n 3, 1) := by decide +kernel
theorem dX2_set_100 : decode cX2_set 100 = .ok (.iload_n 3, 1) := by decide +kernel
theorem dX2_set_101 : decode cX2_set 101 = .ok (.ifCond .ne 5, 3) := by decide +kernel
theorem dX2_set_104 : decode cX2_set 104 = .ok (.iconst (-1), 1) := by decide +kernel
theorem dX2_set_105 : decode cX2_set 105 = .ok (.ireturn, 1) := by decide +kernel
theorem dX2_set_106 : decode cX2_set 106 = .ok (.aload_n 0, 1) := by decide +kernel
theorem dX2_set_107 : decode cX2_set 107 = .ok (.getfield 13, 3) := by decide +kernel
theorem dX2_set_110 : decode cX2_set 110 = .ok (.iload_n 1, 1) := by decide +kernel
theorem dX2_set_111 : decode cX2_set 111 = .ok (.iaload, 1) := by decide +kernel
theorem dX2_set_112 : decode cX2_set 112 = .ok (.istore 4, 2) := by decide +kernel
theorem dX2_set_114 : decode cX2_set 114 = .ok (.aload_n 0, 1) := by decide +kernel
theorem dX2_set_115 : decode cX2_set 115 = .ok (.getfield 13, 3) := by decide +kernel
theorem dX2_set_118 : decode cX2_set 118 = .ok (.iload_n 1, 1) := by decide +kernel
theorem dX2_set_119 : decode cX2_set 119 = .ok (.iload_n 2, 1) := by decide +kernel
theorem dX2_set_120 : decode cX2_set 120 = .ok (.iastore, 1) := by decide +kernel
theorem dX2_set_121 : decode cX2_set 121 = .ok (.iconst 0, 1) := by decide +kernel
theorem dX2_set_122 : decode cX2_set 122 = .ok (.istore 5, 2) := by decide +kernel
theorem dX2_set_124 : decode cX2_set 124 = .ok (.iload 5, 2) := by decide +kernel
theorem dX2_set_126 : decode cX2_set 126 = .ok (.iconst 5, 1) := by decide +kernel
theorem dX2_set_127 : decode cX2_set 127 = .ok (.if_icmp .ge 60, 3) := by decide +kernel
theorem dX2_set_130 : decode cX2_set 130 = .ok (.iload_n 1, 1) := by decide +kernel
theorem dX2_set_131 : decode cX2_set 131 = .ok (.ifCond .ne 56, 3) := by decide +kernel
theorem dX2_set_134 : decode cX2_set 134 = .ok (.iload 4, 2) := by decide +kernel
theorem dX2_set_136 : decode cX2_set 136 = .ok (.iload_n 2, 1) := by decide +kernel
theorem dX2_set_137 : decode cX2_set 137 = .ok (.if_icmp .eq 50, 3) := by decide +kernel
theorem dX2_set_140 : decode cX2_set 140 = .ok (.aload_n 0, 1) := by decide +kernel
theorem dX2_set_141 : decode cX2_set 141 = .ok (.getfield 44, 3) := by decide +kernel
theorem dX2_set_144 : decode cX2_set 144 = .ok (.bipush 7, 2) := by decide +kernel
theorem dX2_set_146 : decode cX2_set 146 = .ok (.iload 5, 2) := by decide +kernel
theorem dX2_set_148 : decode cX2_set 148 = .ok (.imul, 1) := by decide +kernel
theorem dX2_set_149 : decode cX2_set 149 = .ok (.bipush 6, 2) := by decide +kernel
theorem dX2_set_151 : decode cX2_set 151 = .ok (.iadd, 1) := by decide +kernel
theorem dX2_set_152 : decode cX2_set 152 = .ok (.dup2, 1) := by decide +kernel
theorem dX2_set_153 : decode cX2_set 153 = .ok (.iaload, 1) := by decide +kernel
theorem dX2_set_154 : decode cX2_set 154 = .ok (.aload_n 0, 1) := by decide +kernel
theorem dX2_set_155 : decode cX2_set 155 = .ok (.getfield 44, 3) := by decide +kernel
theorem dX2_set_158 : decode cX2_set 158 = .ok (.bipush 7, 2) := by decide +kernel
theorem dX2_set_160 : decode cX2_set 160 = .ok (.iload 5, 2) := by decide +kernel
theorem dX2_set_162 : decode cX2_set 162 = .ok (.imul, 1) := by decide +kernel
theorem dX2_set_163 : decode cX2_set 163 = .ok (.iconst 5, 1) := by decide +kernel
theorem dX2_set_164 : decode cX2_set 164 = .ok (.iadd, 1) := by decide +kernel
theorem dX2_set_165 : decode cX2_set 165 = .ok (.iaload, 1) := by decide +kernel
theorem dX2_set_166 : decode cX2_set 166 = .ok (.iadd, 1) := by decide +kernel
theorem dX2_set_167 : decode cX2_set 167 = .ok (.iastore, 1) := by decide +kernel
theorem dX2_set_168 : decode cX2_set 168 = .ok (.aload_n 0, 1) := by decide +kernel
theorem dX2_set_169 : decode cX2_set 169 = .ok (.getfield 44, 3) := by decide +kernel
theorem dX2_set_172 : decode cX2_set 172 = .ok (.bipush 7, 2) := by decide +kernel
theorem dX2_set_174 : decode cX2_set 174 = .ok (.iload 5, 2) := by decide +kernel
theorem dX2_set_176 : decode cX2_set 176 = .ok (.imul, 1) := by decide +kernel
theorem dX2_set_177 : decode cX2_set 177 = .ok (.iconst 5, 1) := by decide +kernel
theorem dX2_set_178 : decode cX2_set 178 = .ok (.iadd, 1) := by decide +kernel
theorem dX2_set_179 : decode cX2_set 179 = .ok (.iconst 0, 1) := by decide +kernel
theorem dX2_set_180 : decode cX2_set 180 = .ok (.iastore, 1) := by decide +kernel
theorem dX2_set_181 : decode cX2_set 181 = .ok (.iinc 5 1, 3) := by decide +kernel
theorem dX2_set_184 : decode cX2_set 184 = .ok (.goto (-60), 3) := by decide +kernel
theorem dX2_set_187 : decode cX2_set 187 = .ok (.iload 4, 2) := by decide +kernel
theorem dX2_set_189 : decode cX2_set 189 = .ok (.ireturn, 1) := by decide +kernel
theorem dX2_weightOf_0 : decode cX2_weightOf 0 = .ok (.iload_n 3, 1) := by decide +kernel
theorem dX2_weightOf_1 : decode cX2_weightOf 1 = .ok (.ifCond .eq 41, 3) := by decide +kernel
theorem dX2_weightOf_4 : decode cX2_weightOf 4 = .ok (.aload_n 0, 1) := by decide +kernel
theorem dX2_weightOf_5 : decode cX2_weightOf 5 = .ok (.dup, 1) := by decide +kernel
theorem dX2_weightOf_6 : decode cX2_weightOf 6 = .ok (.getfield 65, 3) := by decide +kernel
theorem dX2_weightOf_9 : decode cX2_weightOf 9 = .ok (.ldc2_w 69, 3) := by decide +kernel
theorem dX2_weightOf_12 : decode cX2_weightOf 12 = .ok (.ladd, 1) := by decide +kernel
theorem dX2_weightOf_13 : decode cX2_weightOf 13 = .ok (.putfield 65, 3) := by decide +kernel
theorem dX2_weightOf_16 : decode cX2_weightOf 16 = .ok (.aload_n 0, 1) := by decide +kernel
theorem dX2_weightOf_17 : decode cX2_weightOf 17 = .ok (.getfield 13, 3) := by decide +kernel
theorem dX2_weightOf_20 : decode cX2_weightOf 20 = .ok (.iconst 3, 1) := by decide +kernel
theorem dX2_weightOf_21 : decode cX2_weightOf 21 = .ok (.iaload, 1) := by decide +kernel
theorem dX2_weightOf_22 : decode cX2_weightOf 22 = .ok (.ifCond .ne 20, 3) := by decide +kernel
theorem dX2_weightOf_25 : decode cX2_weightOf 25 = .ok (.aload_n 0, 1) := by decide +kernel
theorem dX2_weightOf_26 : decode cX2_weightOf 26 = .ok (.getfield 44, 3) := by decide +kernel
theorem dX2_weightOf_29 : decode cX2_weightOf 29 = .ok (.bipush 7, 2) := by decide +kernel
theorem dX2_weightOf_31 : decode cX2_weightOf 31 = .ok (.iload_n 1, 1) := by decide +kernel
theorem dX2_weightOf_32 : decode cX2_weightOf 32 = .ok (.imul, 1) := by decide +kernel
theorem dX2_weightOf_33 : decode cX2_weightOf 33 = .ok (.iconst 4, 1) := by decide +kernel
theorem dX2_weightOf_34 : decode cX2_weightOf 34 = .ok (.iadd, 1) := by decide +kernel
theorem dX2_weightOf_35 : decode cX2_weightOf 35 = .ok (.dup2, 1) := by decide +kernel
theorem dX2_weightOf_36 : decode cX2_weightOf 36 = .ok (.iaload, 1) := by decide +kernel
theorem dX2_weightOf_37 : decode cX2_weightOf 37 = .ok (.iconst 1, 1) := by decide +kernel
theorem dX2_weightOf_38 : decode cX2_weightOf 38 = .ok (.iadd, 1) := by decide +kernel
theorem dX2_weightOf_39 : decode cX2_weightOf 39 = .ok (.iastore, 1) := by decide +kernel
theorem dX2_weightOf_40 : decode cX2_weightOf 40 = .ok (.iconst 0, 1) := by decide +kernel
theorem dX2_weightOf_41 : decode cX2_weightOf 41 = .ok (.ireturn, 1) := by decide +kernel
theorem dX2_weightOf_42 : decode cX2_weightOf 42 = .ok (.aload_n 0, 1) := by decide +kernel
theorem dX2_weightOf_43 : decode cX2_weightOf 43 = .ok (.dup, 1) := by decide +kernel
theorem dX2_weightOf_44 : decode cX2_weightOf 44 = .ok (.getfield 65, 3) := by decide +kernel
theorem dX2_weightOf_47 : decode cX2_weightOf 47 = .ok (.ldc2_w 71, 3) := by decide +kernel
theorem dX2_weightOf_50 : decode cX2_weightOf 50 = .ok (.ladd, 1) := by decide +kernel
theorem dX2_weightOf_51 : decode cX2_weightOf 51 = .ok (.putfield 65, 3) := by decide +kernel
theorem dX2_weightOf_54 : decode cX2_weightOf 54 = .ok (.aload_n 0, 1) := by decide +kernel
theorem dX2_weightOf_55 : decode cX2_weightOf 55 = .ok (.getfield 44, 3) := by decide +kernel
theorem dX2_weightOf_58 : decode cX2_weightOf 58 = .ok (.bipush 7, 2) := by decide +kernel
theorem dX2_weightOf_60 : decode cX2_weightOf 60 = .ok (.iload_n 1, 1) := by decide +kernel
theorem dX2_weightOf_61 : decode cX2_weightOf 61 = .ok (.imul, 1) := by decide +kernel
theorem dX2_weightOf_62 : decode cX2_weightOf 62 = .ok (.iaload, 1) := by decide +kernel
theorem dX2_weightOf_63 : decode cX2_weightOf 63 = .ok (.aload_n 0, 1) := by decide +kernel
theorem dX2_weightOf_64 : decode cX2_weightOf 64 = .ok (.getfield 13, 3) := by decide +kernel
theorem dX2_weightOf_67 : decode cX2_weightOf 67 = .ok (.iconst 2, 1) := by decide +kernel
theorem dX2_weightOf_68 : decode cX2_weightOf 68 = .ok (.iaload, 1) := by decide +kernel
theorem dX2_weightOf_69 : decode cX2_weightOf 69 = .ok (.if_icmp .ge 5, 3) := by decide +kernel
theorem dX2_weightOf_72 : decode cX2_weightOf 72 = .ok (.iconst 1, 1) := by decide +kernel
theorem dX2_weightOf_73 : decode cX2_weightOf 73 = .ok (.ireturn, 1) := by decide +kernel
theorem dX2_weightOf_74 : decode cX2_weightOf 74 = .ok (.aload_n 0, 1) := by decide +kernel
theorem dX2_weightOf_75 : decode cX2_weightOf 75 = .ok (.dup, 1) := by decide +kernel
theorem dX2_weightOf_76 : decode cX2_weightOf 76 = .ok (.getfield 65, 3) := by decide +kernel
theorem dX2_weightOf_79 : decode cX2_weightOf 79 = .ok (.ldc2_w 73, 3) := by decide +kernel
theorem dX2_weightOf_82 : decode cX2_weightOf 82 = .ok (.ladd, 1) := by decide +kernel
theorem dX2_weightOf_83 : decode cX2_weightOf 83 = .ok (.putfield 65, 3) := by decide +kernel
theorem dX2_weightOf_86 : decode cX2_weightOf 86 = .ok (.iload_n 2, 1) := by decide +kernel
theorem dX2_weightOf_87 : decode cX2_weightOf 87 = .ok (.aload_n 0, 1) := by decide +kernel
theorem dX2_weightOf_88 : decode cX2_weightOf 88 = .ok (.getfield 13, 3) := by decide +kernel
theorem dX2_weightOf_91 : decode cX2_weightOf 91 = .ok (.iconst 1, 1) := by decide +kernel
theorem dX2_weightOf_92 : decode cX2_weightOf 92 = .ok (.iaload, 1) := by decide +kernel
theorem dX2_weightOf_93 : decode cX2_weightOf 93 = .ok (.if_icmp .lt 5, 3) := by decide +kernel
theorem dX2_weightOf_96 : decode cX2_weightOf 96 = .ok (.iconst 1, 1) := by decide +kernel
theorem dX2_weightOf_97 : decode cX2_weightOf 97 = .ok (.ireturn, 1) := by decide +kernel
theorem dX2_weightOf_98 : decode cX2_weightOf 98 = .ok (.aload_n 0, 1) := by decide +kernel
theorem dX2_weightOf_99 : decode cX2_weightOf 99 = .ok (.dup, 1) := by decide +kernel
theorem dX2_weightOf_100 : decode cX2_weightOf 100 = .ok (.getfield 65, 3) := by decide +kernel
theorem dX2_weightOf_103 : decode cX2_weightOf 103 = .ok (.lconst 1, 1) := by decide +kernel
theorem dX2_weightOf_104 : decode cX2_weightOf 104 = .ok (.ladd, 1) := by decide +kernel
theorem dX2_weightOf_105 : decode cX2_weightOf 105 = .ok (.putfield 65, 3) := by decide +kernel
theorem dX2_weightOf_108 : decode cX2_weightOf 108 = .ok (.aload_n 0, 1) := by decide +kernel
theorem dX2_weightOf_109 : decode cX2_weightOf 109 = .ok (.getfield 44, 3) := by decide +kernel
theorem dX2_weightOf_112 : decode cX2_weightOf 112 = .ok (.bipush 7, 2) := by decide +kernel
theorem dX2_weightOf_114 : decode cX2_weightOf 114 = .ok (.iload_n 1, 1) := by decide +kernel
theorem dX2_weightOf_115 : decode cX2_weightOf 115 = .ok (.imul, 1) := by decide +kernel
theorem dX2_weightOf_116 : decode cX2_weightOf 116 = .ok (.iconst 5, 1) := by decide +kernel
theorem dX2_weightOf_117 : decode cX2_weightOf 117 = .ok (.iadd, 1) := by decide +kernel
theorem dX2_weightOf_118 : decode cX2_weightOf 118 = .ok (.dup2, 1) := by decide +kernel
end
section
theorem dX2_weightOf_119 : decode cX2_weightOf 119 = .ok (.iaload, 1) := by decide +kernel
theorem dX2_weightOf_120 : decode cX2_weightOf 120 = .ok (.iconst 1, 1) := by decide +kernel
theorem dX2_weightOf_121 : decode cX2_weightOf 121 = .ok (.iadd, 1) := by decide +kernel
theorem dX2_weightOf_122 : decode cX2_weightOf 122 = .ok (.iastore, 1) := by decide +kernel
theorem dX2_weightOf_123 : decode cX2_weightOf 123 = .ok (.aload_n 0, 1) := by decide +kernel
theorem dX2_weightOf_124 : decode cX2_weightOf 124 = .ok (.getfield 44, 3) := by decide +kernel
theorem dX2_weightOf_127 : decode cX2_weightOf 127 = .ok (.bipush 7, 2) := by decide +kernel
theorem dX2_weightOf_129 : decode cX2_weightOf 129 = .ok (.iload_n 1, 1) := by decide +kernel
theorem dX2_weightOf_130 : decode cX2_weightOf 130 = .ok (.imul, 1) := by decide +kernel
theorem dX2_weightOf_131 : decode cX2_weightOf 131 = .ok (.iconst 5, 1) := by decide +kernel
theorem dX2_weightOf_132 : decode cX2_weightOf 132 = .ok (.iadd, 1) := by decide +kernel
theorem dX2_weightOf_133 : decode cX2_weightOf 133 = .ok (.iaload, 1) := by decide +kernel
theorem dX2_weightOf_134 : decode cX2_weightOf 134 = .ok (.aload_n 0, 1) := by decide +kernel
theorem dX2_weightOf_135 : decode cX2_weightOf 135 = .ok (.getfield 13, 3) := by decide +kernel
theorem dX2_weightOf_138 : decode cX2_weightOf 138 = .ok (.iconst 0, 1) := by decide +kernel
theorem dX2_weightOf_139 : decode cX2_weightOf 139 = .ok (.iaload, 1) := by decide +kernel
theorem dX2_weightOf_140 : decode cX2_weightOf 140 = .ok (.if_icmp .ge 5, 3) := by decide +kernel
theorem dX2_weightOf_143 : decode cX2_weightOf 143 = .ok (.iconst 0, 1) := by decide +kernel
theorem dX2_weightOf_144 : decode cX2_weightOf 144 = .ok (.ireturn, 1) := by decide +kernel
theorem dX2_weightOf_145 : decode cX2_weightOf 145 = .ok (.aload_n 0, 1) := by decide +kernel
theorem dX2_weightOf_146 : decode cX2_weightOf 146 = .ok (.getfield 44, 3) := by decide +kernel
theorem dX2_weightOf_149 : decode cX2_weightOf 149 = .ok (.bipush 7, 2) := by decide +kernel
theorem dX2_weightOf_151 : decode cX2_weightOf 151 = .ok (.iload_n 1, 1) := by decide +kernel
theorem dX2_weightOf_152 : decode cX2_weightOf 152 = .ok (.imul, 1) := by decide +kernel
theorem dX2_weightOf_153 : decode cX2_weightOf 153 = .ok (.iconst 5, 1) := by decide +kernel
theorem dX2_weightOf_154 : decode cX2_weightOf 154 = .ok (.iadd, 1) := by decide +kernel
theorem dX2_weightOf_155 : decode cX2_weightOf 155 = .ok (.iconst 0, 1) := by decide +kernel
theorem dX2_weightOf_156 : decode cX2_weightOf 156 = .ok (.iastore, 1) := by decide +kernel
theorem dX2_weightOf_157 : decode cX2_weightOf 157 = .ok (.aload_n 0, 1) := by decide +kernel
theorem dX2_weightOf_158 : decode cX2_weightOf 158 = .ok (.getfield 13, 3) := by decide +kernel
theorem dX2_weightOf_161 : decode cX2_weightOf 161 = .ok (.iconst 0, 1) := by decide +kernel
theorem dX2_weightOf_162 : decode cX2_weightOf 162 = .ok (.iaload, 1) := by decide +kernel
theorem dX2_weightOf_163 : decode cX2_weightOf 163 = .ok (.ireturn, 1) := by decide +kernel
theorem dX2_decides_0 : decode cX2_decides 0 = .ok (.aload_n 0, 1) := by decide +kernel
theorem dX2_decides_1 : decode cX2_decides 1 = .ok (.getfield 23, 3) := by decide +kernel
theorem dX2_decides_4 : decode cX2_decides 4 = .ok (.iload_n 1, 1) := by decide +kernel
theorem dX2_decides_5 : decode cX2_decides 5 = .ok (.iaload, 1) := by decide +kernel
theorem dX2_decides_6 : decode cX2_decides 6 = .ok (.istore_n 3, 1) := by decide +kernel
theorem dX2_decides_7 : decode cX2_decides 7 = .ok (.aload_n 0, 1) := by decide +kernel
theorem dX2_decides_8 : decode cX2_decides 8 = .ok (.iload_n 3, 1) := by decide +kernel
theorem dX2_decides_9 : decode cX2_decides 9 = .ok (.aload_n 0, 1) := by decide +kernel
theorem dX2_decides_10 : decode cX2_decides 10 = .ok (.getfield 26, 3) := by decide +kernel
theorem dX2_decides_13 : decode cX2_decides 13 = .ok (.iload_n 1, 1) := by decide +kernel
theorem dX2_decides_14 : decode cX2_decides 14 = .ok (.iaload, 1) := by decide +kernel
theorem dX2_decides_15 : decode cX2_decides 15 = .ok (.iload_n 2, 1) := by decide +kernel
theorem dX2_decides_16 : decode cX2_decides 16 = .ok (.invokevirtual 75, 3) := by decide +kernel
theorem dX2_decides_19 : decode cX2_decides 19 = .ok (.istore 4, 2) := by decide +kernel
theorem dX2_decides_21 : decode cX2_decides 21 = .ok (.aload_n 0, 1) := by decide +kernel
theorem dX2_decides_22 : decode cX2_decides 22 = .ok (.getfield 44, 3) := by decide +kernel
theorem dX2_decides_25 : decode cX2_decides 25 = .ok (.bipush 7, 2) := by decide +kernel
theorem dX2_decides_27 : decode cX2_decides 27 = .ok (.iload_n 3, 1) := by decide +kernel
theorem dX2_decides_28 : decode cX2_decides 28 = .ok (.imul, 1) := by decide +kernel
theorem dX2_decides_29 : decode cX2_decides 29 = .ok (.dup2, 1) := by decide +kernel
theorem dX2_decides_30 : decode cX2_decides 30 = .ok (.iaload, 1) := by decide +kernel
theorem dX2_decides_31 : decode cX2_decides 31 = .ok (.iconst 1, 1) := by decide +kernel
theorem dX2_decides_32 : decode cX2_decides 32 = .ok (.iadd, 1) := by decide +kernel
theorem dX2_decides_33 : decode cX2_decides 33 = .ok (.iastore, 1) := by decide +kernel
theorem dX2_decides_34 : decode cX2_decides 34 = .ok (.iconst 0, 1) := by decide +kernel
theorem dX2_decides_35 : decode cX2_decides 35 = .ok (.istore 5, 2) := by decide +kernel
theorem dX2_decides_37 : decode cX2_decides 37 = .ok (.iconst 1, 1) := by decide +kernel
theorem dX2_decides_38 : decode cX2_decides 38 = .ok (.istore 6, 2) := by decide +kernel
theorem dX2_decides_40 : decode cX2_decides 40 = .ok (.aload_n 0, 1) := by decide +kernel
theorem dX2_decides_41 : decode cX2_decides 41 = .ok (.getfield 26, 3) := by decide +kernel
theorem dX2_decides_44 : decode cX2_decides 44 = .ok (.iload_n 1, 1) := by decide +kernel
theorem dX2_decides_45 : decode cX2_decides 45 = .ok (.iaload, 1) := by decide +kernel
theorem dX2_decides_46 : decode cX2_decides 46 = .ok (.iload 6, 2) := by decide +kernel
theorem dX2_decides_48 : decode cX2_decides 48 = .ok (.if_icmp .lt 15, 3) := by decide +kernel
theorem dX2_decides_51 : decode cX2_decides 51 = .ok (.iinc 5 1, 3) := by decide +kernel
theorem dX2_decides_54 : decode cX2_decides 54 = .ok (.iload 6, 2) := by decide +kernel
theorem dX2_decides_56 : decode cX2_decides 56 = .ok (.iconst 2, 1) := by decide +kernel
theorem dX2_decides_57 : decode cX2_decides 57 = .ok (.imul, 1) := by decide +kernel
theorem dX2_decides_58 : decode cX2_decides 58 = .ok (.istore 6, 2) := by decide +kernel
theorem dX2_decides_60 : decode cX2_decides 60 = .ok (.goto (-20), 3) := by decide +kernel
theorem dX2_decides_63 : decode cX2_decides 63 = .ok (.aload_n 0, 1) := by decide +kernel
theorem dX2_decides_64 : decode cX2_decides 64 = .ok (.getfield 47, 3) := by decide +kernel
theorem dX2_decides_67 : decode cX2_decides 67 = .ok (.iload 5, 2) := by decide +kernel
theorem dX2_decides_69 : decode cX2_decides 69 = .ok (.dup2, 1) := by decide +kernel
theorem dX2_decides_70 : decode cX2_decides 70 = .ok (.iaload, 1) := by decide +kernel
theorem dX2_decides_71 : decode cX2_decides 71 = .ok (.iconst 1, 1) := by decide +kernel
theorem dX2_decides_72 : decode cX2_decides 72 = .ok (.iadd, 1) := by decide +kernel
theorem dX2_decides_73 : decode cX2_decides 73 = .ok (.iastore, 1) := by decide +kernel
theorem dX2_decides_74 : decode cX2_decides 74 = .ok (.aload_n 0, 1) := by decide +kernel
theorem dX2_decides_75 : decode cX2_decides 75 = .ok (.getfield 50, 3) := by decide +kernel
theorem dX2_decides_78 : decode cX2_decides 78 = .ok (.bipush 10, 2) := by decide +kernel
theorem dX2_decides_80 : decode cX2_decides 80 = .ok (.dup2, 1) := by decide +kernel
theorem dX2_decides_81 : decode cX2_decides 81 = .ok (.iaload, 1) := by decide +kernel
theorem dX2_decides_82 : decode cX2_decides 82 = .ok (.iconst 1, 1) := by decide +kernel
theorem dX2_decides_83 : decode cX2_decides 83 = .ok (.iadd, 1) := by decide +kernel
theorem dX2_decides_84 : decode cX2_decides 84 = .ok (.iastore, 1) := by decide +kernel
theorem dX2_decides_85 : decode cX2_decides 85 = .ok (.aload_n 0, 1) := by decide +kernel
theorem dX2_decides_86 : decode cX2_decides 86 = .ok (.getfield 50, 3) := by decide +kernel
theorem dX2_decides_89 : decode cX2_decides 89 = .ok (.bipush 11, 2) := by decide +kernel
theorem dX2_decides_91 : decode cX2_decides 91 = .ok (.dup2, 1) := by decide +kernel
theorem dX2_decides_92 : decode cX2_decides 92 = .ok (.iaload, 1) := by decide +kernel
theorem dX2_decides_93 : decode cX2_decides 93 = .ok (.iload_n 2, 1) := by decide +kernel
theorem dX2_decides_94 : decode cX2_decides 94 = .ok (.ifCond .eq 7, 3) := by decide +kernel
theorem dX2_decides_97 : decode cX2_decides 97 = .ok (.iconst 1, 1) := by decide +kernel
theorem dX2_decides_98 : decode cX2_decides 98 = .ok (.goto 4, 3) := by decide +kernel
theorem dX2_decides_101 : decode cX2_decides 101 = .ok (.iconst 0, 1) := by decide +kernel
theorem dX2_decides_102 : decode cX2_decides 102 = .ok (.iadd, 1) := by decide +kernel
theorem dX2_decides_103 : decode cX2_decides 103 = .ok (.iastore, 1) := by decide +kernel
theorem dX2_decides_104 : decode cX2_decides 104 = .ok (.aload_n 0, 1) := by decide +kernel
theorem dX2_decides_105 : decode cX2_decides 105 = .ok (.getfield 17, 3) := by decide +kernel
theorem dX2_decides_108 : decode cX2_decides 108 = .ok (.iload_n 1, 1) := by decide +kernel
theorem dX2_decides_109 : decode cX2_decides 109 = .ok (.bipush (-9), 2) := by decide +kernel
theorem dX2_decides_111 : decode cX2_decides 111 = .ok (.iastore, 1) := by decide +kernel
theorem dX2_decides_112 : decode cX2_decides 112 = .ok (.aload_n 0, 1) := by decide +kernel
theorem dX2_decides_113 : decode cX2_decides 113 = .ok (.getfield 35, 3) := by decide +kernel
theorem dX2_decides_116 : decode cX2_decides 116 = .ok (.iload_n 1, 1) := by decide +kernel
theorem dX2_decides_117 : decode cX2_decides 117 = .ok (.aload_n 0, 1) := by decide +kernel
theorem dX2_decides_118 : decode cX2_decides 118 = .ok (.getfield 50, 3) := by decide +kernel
theorem dX2_decides_121 : decode cX2_decides 121 = .ok (.bipush 10, 2) := by decide +kernel
theorem dX2_decides_123 : decode cX2_decides 123 = .ok (.iaload, 1) := by decide +kernel
theorem dX2_decides_124 : decode cX2_decides 124 = .ok (.iastore, 1) := by decide +kernel
theorem dX2_decides_125 : decode cX2_decides 125 = .ok (.aload_n 0, 1) := by decide +kernel
theorem dX2_decides_126 : decode cX2_decides 126 = .ok (.getfield 38, 3) := by decide +kernel
theorem dX2_decides_129 : decode cX2_decides 129 = .ok (.iload_n 1, 1) := by decide +kernel
theorem dX2_decides_130 : decode cX2_decides 130 = .ok (.aload_n 0, 1) := by decide +kernel
theorem dX2_decides_131 : decode cX2_decides 131 = .ok (.getfield 79, 3) := by decide +kernel
theorem dX2_decides_134 : decode cX2_decides 134 = .ok (.iastore, 1) := by decide +kernel
theorem dX2_decides_135 : decode cX2_decides 135 = .ok (.iload 4, 2) := by decide +kernel
theorem dX2_decides_137 : decode cX2_decides 137 = .ok (.ifCond .le 31, 3) := by decide +kernel
theorem dX2_decides_140 : decode cX2_decides 140 = .ok (.aload_n 0, 1) := by decide +kernel
theorem dX2_decides_141 : decode cX2_decides 141 = .ok (.getfield 82, 3) := by decide +kernel
theorem dX2_decides_144 : decode cX2_decides 144 = .ok (.bipush 20, 2) := by decide +kernel
theorem dX2_decides_146 : decode cX2_decides 146 = .ok (.if_icmp .ne 22, 3) := by decide +kernel
theorem dX2_decides_149 : decode cX2_decides 149 = .ok (.aload_n 0, 1) := by decide +kernel
theorem dX2_decides_150 : decode cX2_decides 150 = .ok (.getfield 44, 3) := by decide +kernel
theorem dX2_decides_153 : decode cX2_decides 153 = .ok (.bipush 7, 2) := by decide +kernel
theorem dX2_decides_155 : decode cX2_decides 155 = .ok (.iload_n 3, 1) := by decide +kernel
theorem dX2_decides_156 : decode cX2_decides 156 = .ok (.imul, 1) := by decide +kernel
theorem dX2_decides_157 : decode cX2_decides 157 = .ok (.iconst 3, 1) := by decide +kernel
theorem dX2_decides_158 : decode cX2_decides 158 = .ok (.iadd, 1) := by decide +kernel
theorem dX2_decides_159 : decode cX2_decides 159 = .ok (.dup2, 1) := by decide +kernel
theorem dX2_decides_160 : decode cX2_decides 160 = .ok (.iaload, 1) := by decide +kernel
theorem dX2_decides_161 : decode cX2_decides 161 = .ok (.iload 4, 2) := by decide +kernel
theorem dX2_decides_163 : decode cX2_decides 163 = .ok (.iadd, 1) := by decide +kernel
theorem dX2_decides_164 : decode cX2_decides 164 = .ok (.iastore, 1) := by decide +kernel
theorem dX2_decides_165 : decode cX2_decides 165 = .ok (.goto 151, 3) := by decide +kernel
theorem dX2_decides_168 : decode cX2_decides 168 = .ok (.iload 4, 2) := by decide +kernel
theorem dX2_decides_170 : decode cX2_decides 170 = .ok (.ifCond .le 146, 3) := by decide +kernel
theorem dX2_decides_173 : decode cX2_decides 173 = .ok (.bipush 8, 2) := by decide +kernel
theorem dX2_decides_175 : decode cX2_decides 175 = .ok (.aload_n 0, 1) := by decide +kernel
theorem dX2_decides_176 : decode cX2_decides 176 = .ok (.getfield 82, 3) := by decide +kernel
theorem dX2_decides_179 : decode cX2_decides 179 = .ok (.imul, 1) := by decide +kernel
theorem dX2_decides_180 : decode cX2_decides 180 = .ok (.istore 7, 2) := by decide +kernel
theorem dX2_decides_182 : decode cX2_decides 182 = .ok (.aload_n 0, 1) := by decide +kernel
theorem dX2_decides_183 : decode cX2_decides 183 = .ok (.getfield 41, 3) := by decide +kernel
theorem dX2_decides_186 : decode cX2_decides 186 = .ok (.iload 7, 2) := by decide +kernel
theorem dX2_decides_188 : decode cX2_decides 188 = .ok (.iload_n 1, 1) := by decide +kernel
theorem dX2_decides_189 : decode cX2_decides 189 = .ok (.iastore, 1) := by decide +kernel
theorem dX2_decides_190 : decode cX2_decides 190 = .ok (.aload_n 0, 1) := by decide +kernel
theorem dX2_decides_191 : decode cX2_decides 191 = .ok (.getfield 41, 3) := by decide +kernel
theorem dX2_decides_194 : decode cX2_decides 194 = .ok (.iload 7, 2) := by decide +kernel
theorem dX2_decides_196 : decode cX2_decides 196 = .ok (.iconst 1, 1) := by decide +kernel
theorem dX2_decides_197 : decode cX2_decides 197 = .ok (.iadd, 1) := by decide +kernel
theorem dX2_decides_198 : decode cX2_decides 198 = .ok (.aload_n 0, 1) := by decide +kernel
theorem dX2_decides_199 : decode cX2_decides 199 = .ok (.getfield 20, 3) := by decide +kernel
theorem dX2_decides_202 : decode cX2_decides 202 = .ok (.iload_n 1, 1) := by decide +kernel
theorem dX2_decides_203 : decode cX2_decides 203 = .ok (.iaload, 1) := by decide +kernel
theorem dX2_decides_204 : decode cX2_decides 204 = .ok (.iastore, 1) := by decide +kernel
theorem dX2_decides_205 : decode cX2_decides 205 = .ok (.aload_n 0, 1) := by decide +kernel
theorem dX2_decides_206 : decode cX2_decides 206 = .ok (.getfield 41, 3) := by decide +kernel
theorem dX2_decides_209 : decode cX2_decides 209 = .ok (.iload 7, 2) := by decide +kernel
theorem dX2_decides_211 : decode cX2_decides 211 = .ok (.iconst 2, 1) := by decide +kernel
theorem dX2_decides_212 : decode cX2_decides 212 = .ok (.iadd, 1) := by decide +kernel
theorem dX2_decides_213 : decode cX2_decides 213 = .ok (.iload_n 3, 1) := by decide +kernel
theorem dX2_decides_214 : decode cX2_decides 214 = .ok (.iastore, 1) := by decide +kernel
theorem dX2_decides_215 : decode cX2_decides 215 = .ok (.aload_n 0, 1) := by decide +kernel
theorem dX2_decides_216 : decode cX2_decides 216 = .ok (.getfield 41, 3) := by decide +kernel
theorem dX2_decides_219 : decode cX2_decides 219 = .ok (.iload 7, 2) := by decide +kernel
theorem dX2_decides_221 : decode cX2_decides 221 = .ok (.iconst 3, 1) := by decide +kernel
theorem dX2_decides_222 : decode cX2_decides 222 = .ok (.iadd, 1) := by decide +kernel
theorem dX2_decides_223 : decode cX2_decides 223 = .ok (.aload_n 0, 1) := by decide +kernel
theorem dX2_decides_224 : decode cX2_decides 224 = .ok (.getfield 26, 3) := by decide +kernel
theorem dX2_decides_227 : decode cX2_decides 227 = .ok (.iload_n 1, 1) := by decide +kernel
theorem dX2_decides_228 : decode cX2_decides 228 = .ok (.iaload, 1) := by decide +kernel
theorem dX2_decides_229 : decode cX2_decides 229 = .ok (.iastore, 1) := by decide +kernel
theorem dX2_decides_230 : decode cX2_decides 230 = .ok (.aload_n 0, 1) := by decide +kernel
theorem dX2_decides_231 : decode cX2_decides 231 = .ok (.getfield 41, 3) := by decide +kernel
theorem dX2_decides_234 : decode cX2_decides 234 = .ok (.iload 7, 2) := by decide +kernel
theorem dX2_decides_236 : decode cX2_decides 236 = .ok (.iconst 4, 1) := by decide +kernel
theorem dX2_decides_237 : decode cX2_decides 237 = .ok (.iadd, 1) := by decide +kernel
theorem dX2_decides_238 : decode cX2_decides 238 = .ok (.iload 4, 2) := by decide +kernel
theorem dX2_decides_240 : decode cX2_decides 240 = .ok (.iastore, 1) := by decide +kernel
theorem dX2_decides_241 : decode cX2_decides 241 = .ok (.aload_n 0, 1) := by decide +kernel
theorem dX2_decides_242 : decode cX2_decides 242 = .ok (.getfield 41, 3) := by decide +kernel
theorem dX2_decides_245 : decode cX2_decides 245 = .ok (.iload 7, 2) := by decide +kernel
theorem dX2_decides_247 : decode cX2_decides 247 = .ok (.iconst 5, 1) := by decide +kernel
theorem dX2_decides_248 : decode cX2_decides 248 = .ok (.iadd, 1) := by decide +kernel
theorem dX2_decides_249 : decode cX2_decides 249 = .ok (.iload_n 2, 1) := by decide +kernel
theorem dX2_decides_250 : decode cX2_decides 250 = .ok (.ifCond .eq 7, 3) := by decide +kernel
theorem dX2_decides_253 : decode cX2_decides 253 = .ok (.iconst 1, 1) := by decide +kernel
theorem dX2_decides_254 : decode cX2_decides 254 = .ok (.goto 4, 3) := by decide +kernel
theorem dX2_decides_257 : decode cX2_decides 257 = .ok (.iconst 0, 1) := by decide +kernel
theorem dX2_decides_258 : decode cX2_decides 258 = .ok (.iastore, 1) := by decide +kernel
theorem dX2_decides_259 : decode cX2_decides 259 = .ok (.aload_n 0, 1) := by decide +kernel
theorem dX2_decides_260 : decode cX2_decides 260 = .ok (.getfield 41, 3) := by decide +kernel
theorem dX2_decides_263 : decode cX2_decides 263 = .ok (.iload 7, 2) := by decide +kernel
theorem dX2_decides_265 : decode cX2_decides 265 = .ok (.bipush 6, 2) := by decide +kernel
theorem dX2_decides_267 : decode cX2_decides 267 = .ok (.iadd, 1) := by decide +kernel
theorem dX2_decides_268 : decode cX2_decides 268 = .ok (.aload_n 0, 1) := by decide +kernel
theorem dX2_decides_269 : decode cX2_decides 269 = .ok (.getfield 79, 3) := by decide +kernel
theorem dX2_decides_272 : decode cX2_decides 272 = .ok (.iastore, 1) := by decide +kernel
theorem dX2_decides_273 : decode cX2_decides 273 = .ok (.aload_n 0, 1) := by decide +kernel
theorem dX2_decides_274 : decode cX2_decides 274 = .ok (.getfield 41, 3) := by decide +kernel
theorem dX2_decides_277 : decode cX2_decides 277 = .ok (.iload 7, 2) := by decide +kernel
theorem dX2_decides_279 : decode cX2_decides 279 = .ok (.bipush 7, 2) := by decide +kernel
theorem dX2_decides_281 : decode cX2_decides 281 = .ok (.iadd, 1) := by decide +kernel
theorem dX2_decides_282 : decode cX2_decides 282 = .ok (.aload_n 0, 1) := by decide +kernel
theorem dX2_decides_283 : decode cX2_decides 283 = .ok (.getfield 50, 3) := by decide +kernel
theorem dX2_decides_286 : decode cX2_decides 286 = .ok (.bipush 10, 2) := by decide +kernel
theorem dX2_decides_288 : decode cX2_decides 288 = .ok (.iaload, 1) := by decide +kernel
theorem dX2_decides_289 : decode cX2_decides 289 = .ok (.iastore, 1) := by decide +kernel
theorem dX2_decides_290 : decode cX2_decides 290 = .ok (.aload_n 0, 1) := by decide +kernel
theorem dX2_decides_291 : decode cX2_decides 291 = .ok (.dup, 1) := by decide +kernel
theorem dX2_decides_292 : decode cX2_decides 292 = .ok (.getfield 82, 3) := by decide +kernel
theorem dX2_decides_295 : decode cX2_decides 295 = .ok (.iconst 1, 1) := by decide +kernel
theorem dX2_decides_296 : decode cX2_decides 296 = .ok (.iadd, 1) := by decide +kernel
theorem dX2_decides_297 : decode cX2_decides 297 = .ok (.putfield 82, 3) := by decide +kernel
theorem dX2_decides_300 : decode cX2_decides 300 = .ok (.aload_n 0, 1) := by decide +kernel
theorem dX2_decides_301 : decode cX2_decides 301 = .ok (.getfield 44, 3) := by decide +kernel
theorem dX2_decides_304 : decode cX2_decides 304 = .ok (.bipush 7, 2) := by decide +kernel
theorem dX2_decides_306 : decode cX2_decides 306 = .ok (.iload_n 3, 1) := by decide +kernel
theorem dX2_decides_307 : decode cX2_decides 307 = .ok (.imul, 1) := by decide +kernel
theorem dX2_decides_308 : decode cX2_decides 308 = .ok (.iconst 1, 1) := by decide +kernel
theorem dX2_decides_309 : decode cX2_decides 309 = .ok (.iadd, 1) := by decide +kernel
theorem dX2_decides_310 : decode cX2_decides 310 = .ok (.dup2, 1) := by decide +kernel
theorem dX2_decides_311 : decode cX2_decides 311 = .ok (.iaload, 1) := by decide +kernel
theorem dX2_decides_312 : decode cX2_decides 312 = .ok (.iload 4, 2) := by decide +kernel
theorem dX2_decides_314 : decode cX2_decides 314 = .ok (.iadd, 1) := by decide +kernel
theorem dX2_decides_315 : decode cX2_decides 315 = .ok (.iastore, 1) := by decide +kernel
theorem dX2_decides_316 : decode cX2_decides 316 = .ok (.return_, 1) := by decide +kernel
theorem dX2_isKnown_0 : decode cX2_isKnown 0 = .ok (.aload_n 0, 1) := by decide +kernel
theorem dX2_isKnown_1 : decode cX2_isKnown 1 = .ok (.getfield 35, 3) := by decide +kernel
theorem dX2_isKnown_4 : decode cX2_isKnown 4 = .ok (.iload_n 1, 1) := by decide +kernel
theorem dX2_isKnown_5 : decode cX2_isKnown 5 = .ok (.iaload, 1) := by decide +kernel
theorem dX2_isKnown_6 : decode cX2_isKnown 6 = .ok (.ifCond .le 23, 3) := by decide +kernel
theorem dX2_isKnown_9 : decode cX2_isKnown 9 = .ok (.aload_n 0, 1) := by decide +kernel
theorem dX2_isKnown_10 : decode cX2_isKnown 10 = .ok (.getfield 79, 3) := by decide +kernel
theorem dX2_isKnown_13 : decode cX2_isKnown 13 = .ok (.aload_n 0, 1) := by decide +kernel
theorem dX2_isKnown_14 : decode cX2_isKnown 14 = .ok (.getfield 38, 3) := by decide +kernel
theorem dX2_isKnown_17 : decode cX2_isKnown 17 = .ok (.iload_n 1, 1) := by decide +kernel
theorem dX2_isKnown_18 : decode cX2_isKnown 18 = .ok (.iaload, 1) := by decide +kernel
theorem dX2_isKnown_19 : decode cX2_isKnown 19 = .ok (.isub, 1) := by decide +kernel
theorem dX2_isKnown_20 : decode cX2_isKnown 20 = .ok (.bipush 50, 2) := by decide +kernel
theorem dX2_isKnown_22 : decode cX2_isKnown 22 = .ok (.if_icmp .ge 7, 3) := by decide +kernel
theorem dX2_isKnown_25 : decode cX2_isKnown 25 = .ok (.iconst 1, 1) := by decide +kernel
theorem dX2_isKnown_26 : decode cX2_isKnown 26 = .ok (.goto 4, 3) := by decide +kernel
theorem dX2_isKnown_29 : decode cX2_isKnown 29 = .ok (.iconst 0, 1) := by decide +kernel
theorem dX2_isKnown_30 : decode cX2_isKnown 30 = .ok (.ireturn, 1) := by decide +kernel
theorem dX2_keptAt_0 : decode cX2_keptAt 0 = .ok (.iconst 0, 1) := by decide +kernel
theorem dX2_keptAt_1 : decode cX2_keptAt 1 = .ok (.istore_n 2, 1) := by decide +kernel
theorem dX2_keptAt_2 : decode cX2_keptAt 2 = .ok (.iload_n 2, 1) := by decide +kernel
theorem dX2_keptAt_3 : decode cX2_keptAt 3 = .ok (.aload_n 0, 1) := by decide +kernel
theorem dX2_keptAt_4 : decode cX2_keptAt 4 = .ok (.getfield 82, 3) := by decide +kernel
theorem dX2_keptAt_7 : decode cX2_keptAt 7 = .ok (.if_icmp .ge 32, 3) := by decide +kernel
theorem dX2_keptAt_10 : decode cX2_keptAt 10 = .ok (.aload_n 0, 1) := by decide +kernel
theorem dX2_keptAt_11 : decode cX2_keptAt 11 = .ok (.getfield 41, 3) := by decide +kernel
theorem dX2_keptAt_14 : decode cX2_keptAt 14 = .ok (.bipush 8, 2) := by decide +kernel
theorem dX2_keptAt_16 : decode cX2_keptAt 16 = .ok (.iload_n 2, 1) := by decide +kernel
theorem dX2_keptAt_17 : decode cX2_keptAt 17 = .ok (.imul, 1) := by decide +kernel
theorem dX2_keptAt_18 : decode cX2_keptAt 18 = .ok (.bipush 7, 2) := by decide +kernel
theorem dX2_keptAt_20 : decode cX2_keptAt 20 = .ok (.iadd, 1) := by decide +kernel
theorem dX2_keptAt_21 : decode cX2_keptAt 21 = .ok (.iaload, 1) := by decide +kernel
theorem dX2_keptAt_22 : decode cX2_keptAt 22 = .ok (.aload_n 0, 1) := by decide +kernel
theorem dX2_keptAt_23 : decode cX2_keptAt 23 = .ok (.getfield 35, 3) := by decide +kernel
theorem dX2_keptAt_26 : decode cX2_keptAt 26 = .ok (.iload_n 1, 1) := by decide +kernel
theorem dX2_keptAt_27 : decode cX2_keptAt 27 = .ok (.iaload, 1) := by decide +kernel
theorem dX2_keptAt_28 : decode cX2_keptAt 28 = .ok (.if_icmp .ne 5, 3) := by decide +kernel
theorem dX2_keptAt_31 : decode cX2_keptAt 31 = .ok (.iload_n 2, 1) := by decide +kernel
theorem dX2_keptAt_32 : decode cX2_keptAt 32 = .ok (.ireturn, 1) := by decide +kernel
theorem dX2_keptAt_33 : decode cX2_keptAt 33 = .ok (.iinc 2 1, 3) := by decide +kernel
theorem dX2_keptAt_36 : decode cX2_keptAt 36 = .ok (.goto (-34), 3) := by decide +kernel
theorem dX2_keptAt_39 : decode cX2_keptAt 39 = .ok (.bipush (-9), 2) := by decide +kernel
theorem dX2_keptAt_41 : decode cX2_keptAt 41 = .ok (.ireturn, 1) := by decide +kernel
theorem dX2_waitingMany_0 : decode cX2_waitingMany 0 = .ok (.iconst 0, 1) := by decide +kernel
theorem dX2_waitingMany_1 : decode cX2_waitingMany 1 = .ok (.istore_n 1, 1) := by decide +kernel
theorem dX2_waitingMany_2 : decode cX2_waitingMany 2 = .ok (.iconst 0, 1) := by decide +kernel
theorem dX2_waitingMany_3 : decode cX2_waitingMany 3 = .ok (.istore_n 2, 1) := by decide +kernel
theorem dX2_waitingMany_4 : decode cX2_waitingMany 4 = .ok (.iload_n 2, 1) := by decide +kernel
theorem dX2_waitingMany_5 : decode cX2_waitingMany 5 = .ok (.bipush 100, 2) := by decide +kernel
theorem dX2_waitingMany_7 : decode cX2_waitingMany 7 = .ok (.if_icmp .ge 28, 3) := by decide +kernel
theorem dX2_waitingMany_10 : decode cX2_waitingMany 10 = .ok (.iload_n 1, 1) := by decide +kernel
theorem dX2_waitingMany_11 : decode cX2_waitingMany 11 = .ok (.aload_n 0, 1) := by decide +kernel
theorem dX2_waitingMany_12 : decode cX2_waitingMany 12 = .ok (.getfield 17, 3) := by decide +kernel
theorem dX2_waitingMany_15 : decode cX2_waitingMany 15 = .ok (.iload_n 2, 1) := by decide +kernel
theorem dX2_waitingMany_16 : decode cX2_waitingMany 16 = .ok (.iaload, 1) := by decide +kernel
theorem dX2_waitingMany_17 : decode cX2_waitingMany 17 = .ok (.bipush (-9), 2) := by decide +kernel
theorem dX2_waitingMany_19 : decode cX2_waitingMany 19 = .ok (.if_icmp .ne 7, 3) := by decide +kernel
theorem dX2_waitingMany_22 : decode cX2_waitingMany 22 = .ok (.iconst 0, 1) := by decide +kernel
theorem dX2_waitingMany_23 : decode cX2_waitingMany 23 = .ok (.goto 4, 3) := by decide +kernel
theorem dX2_waitingMany_26 : decode cX2_waitingMany 26 = .ok (.iconst 1, 1) := by decide +kernel
theorem dX2_waitingMany_27 : decode cX2_waitingMany 27 = .ok (.iadd, 1) := by decide +kernel
theorem dX2_waitingMany_28 : decode cX2_waitingMany 28 = .ok (.istore_n 1, 1) := by decide +kernel
theorem dX2_waitingMany_29 : decode cX2_waitingMany 29 = .ok (.iinc 2 1, 3) := by decide +kernel
theorem dX2_waitingMany_32 : decode cX2_waitingMany 32 = .ok (.goto (-28), 3) := by decide +kernel
theorem dX2_waitingMany_35 : decode cX2_waitingMany 35 = .ok (.iload_n 1, 1) := by decide +kernel
theorem dX2_waitingMany_36 : decode cX2_waitingMany 36 = .ok (.ireturn, 1) := by decide +kernel
theorem dX2_joins_0 : decode cX2_joins 0 = .ok (.aload_n 0, 1) := by decide +kernel
theorem dX2_joins_1 : decode cX2_joins 1 = .ok (.getfield 20, 3) := by decide +kernel
theorem dX2_joins_4 : decode cX2_joins 4 = .ok (.iload_n 1, 1) := by decide +kernel
theorem dX2_joins_5 : decode cX2_joins 5 = .ok (.iaload, 1) := by decide +kernel
theorem dX2_joins_6 : decode cX2_joins 6 = .ok (.iload_n 2, 1) := by decide +kernel
theorem dX2_joins_7 : decode cX2_joins 7 = .ok (.ishr, 1) := by decide +kernel
theorem dX2_joins_8 : decode cX2_joins 8 = .ok (.iconst 1, 1) := by decide +kernel
theorem dX2_joins_9 : decode cX2_joins 9 = .ok (.iand, 1) := by decide +kernel
theorem dX2_joins_10 : decode cX2_joins 10 = .ok (.iconst 1, 1) := by decide +kernel
theorem dX2_joins_11 : decode cX2_joins 11 = .ok (.if_icmp .ne 5, 3) := by decide +kernel
theorem dX2_joins_14 : decode cX2_joins 14 = .ok (.iconst 3, 1) := by decide +kernel
theorem dX2_joins_15 : decode cX2_joins 15 = .ok (.ireturn, 1) := by decide +kernel
theorem dX2_joins_16 : decode cX2_joins 16 = .ok (.aload_n 0, 1) := by decide +kernel
theorem dX2_joins_17 : decode cX2_joins 17 = .ok (.getfield 29, 3) := by decide +kernel
theorem dX2_joins_20 : decode cX2_joins 20 = .ok (.iload_n 1, 1) := by decide +kernel
theorem dX2_joins_21 : decode cX2_joins 21 = .ok (.iaload, 1) := by decide +kernel
theorem dX2_joins_22 : decode cX2_joins 22 = .ok (.bipush (-9), 2) := by decide +kernel
theorem dX2_joins_24 : decode cX2_joins 24 = .ok (.if_icmp .eq 17, 3) := by decide +kernel
theorem dX2_joins_27 : decode cX2_joins 27 = .ok (.iload_n 2, 1) := by decide +kernel
theorem dX2_joins_28 : decode cX2_joins 28 = .ok (.aload_n 0, 1) := by decide +kernel
theorem dX2_joins_29 : decode cX2_joins 29 = .ok (.getfield 29, 3) := by decide +kernel
theorem dX2_joins_32 : decode cX2_joins 32 = .ok (.iload_n 1, 1) := by decide +kernel
theorem dX2_joins_33 : decode cX2_joins 33 = .ok (.iaload, 1) := by decide +kernel
theorem dX2_joins_34 : decode cX2_joins 34 = .ok (.if_icmp .gt 22, 3) := by decide +kernel
theorem dX2_joins_37 : decode cX2_joins 37 = .ok (.iload_n 3, 1) := by decide +kernel
theorem dX2_joins_38 : decode cX2_joins 38 = .ok (.ifCond .ne 18, 3) := by decide +kernel
theorem dX2_joins_41 : decode cX2_joins 41 = .ok (.iload_n 3, 1) := by decide +kernel
theorem dX2_joins_42 : decode cX2_joins 42 = .ok (.ifCond .eq 16, 3) := by decide +kernel
theorem dX2_joins_45 : decode cX2_joins 45 = .ok (.aload_n 0, 1) := by decide +kernel
theorem dX2_joins_46 : decode cX2_joins 46 = .ok (.getfield 20, 3) := by decide +kernel
theorem dX2_joins_49 : decode cX2_joins 49 = .ok (.iload_n 1, 1) := by decide +kernel
theorem dX2_joins_50 : decode cX2_joins 50 = .ok (.iaload, 1) := by decide +kernel
theorem dX2_joins_51 : decode cX2_joins 51 = .ok (.iload_n 2, 1) := by decide +kernel
theorem dX2_joins_52 : decode cX2_joins 52 = .ok (.ishr, 1) := by decide +kernel
theorem dX2_joins_53 : decode cX2_joins 53 = .ok (.ifCond .eq 5, 3) := by decide +kernel
theorem dX2_joins_56 : decode cX2_joins 56 = .ok (.iconst 4, 1) := by decide +kernel
theorem dX2_joins_57 : decode cX2_joins 57 = .ok (.ireturn, 1) := by decide +kernel
theorem dX2_joins_58 : decode cX2_joins 58 = .ok (.aload_n 0, 1) := by decide +kernel
theorem dX2_joins_59 : decode cX2_joins 59 = .ok (.getfield 20, 3) := by decide +kernel
theorem dX2_joins_62 : decode cX2_joins 62 = .ok (.iload_n 1, 1) := by decide +kernel
theorem dX2_joins_63 : decode cX2_joins 63 = .ok (.dup2, 1) := by decide +kernel
theorem dX2_joins_64 : decode cX2_joins 64 = .ok (.iaload, 1) := by decide +kernel
theorem dX2_joins_65 : decode cX2_joins 65 = .ok (.iconst 1, 1) := by decide +kernel
theorem dX2_joins_66 : decode cX2_joins 66 = .ok (.iload_n 2, 1) := by decide +kernel
theorem dX2_joins_67 : decode cX2_joins 67 = .ok (.ishl, 1) := by decide +kernel
theorem dX2_joins_68 : decode cX2_joins 68 = .ok (.ior, 1) := by decide +kernel
theorem dX2_joins_69 : decode cX2_joins 69 = .ok (.iastore, 1) := by decide +kernel
theorem dX2_joins_70 : decode cX2_joins 70 = .ok (.aload_n 0, 1) := by decide +kernel
theorem dX2_joins_71 : decode cX2_joins 71 = .ok (.getfield 26, 3) := by decide +kernel
theorem dX2_joins_74 : decode cX2_joins 74 = .ok (.iload_n 1, 1) := by decide +kernel
theorem dX2_joins_75 : decode cX2_joins 75 = .ok (.dup2, 1) := by decide +kernel
theorem dX2_joins_76 : decode cX2_joins 76 = .ok (.iaload, 1) := by decide +kernel
theorem dX2_joins_77 : decode cX2_joins 77 = .ok (.iload 4, 2) := by decide +kernel
theorem dX2_joins_79 : decode cX2_joins 79 = .ok (.iadd, 1) := by decide +kernel
theorem dX2_joins_80 : decode cX2_joins 80 = .ok (.iastore, 1) := by decide +kernel
theorem dX2_joins_81 : decode cX2_joins 81 = .ok (.aload_n 0, 1) := by decide +kernel
theorem dX2_joins_82 : decode cX2_joins 82 = .ok (.getfield 29, 3) := by decide +kernel
theorem dX2_joins_85 : decode cX2_joins 85 = .ok (.iload_n 1, 1) := by decide +kernel
theorem dX2_joins_86 : decode cX2_joins 86 = .ok (.iload_n 3, 1) := by decide +kernel
theorem dX2_joins_87 : decode cX2_joins 87 = .ok (.ifCond .eq 7, 3) := by decide +kernel
theorem dX2_joins_90 : decode cX2_joins 90 = .ok (.iload_n 2, 1) := by decide +kernel
theorem dX2_joins_91 : decode cX2_joins 91 = .ok (.goto 9, 3) := by decide +kernel
theorem dX2_joins_94 : decode cX2_joins 94 = .ok (.aload_n 0, 1) := by decide +kernel
theorem dX2_joins_95 : decode cX2_joins 95 = .ok (.getfield 29, 3) := by decide +kernel
theorem dX2_joins_98 : decode cX2_joins 98 = .ok (.iload_n 1, 1) := by decide +kernel
theorem dX2_joins_99 : decode cX2_joins 99 = .ok (.iaload, 1) := by decide +kernel
theorem dX2_joins_100 : decode cX2_joins 100 = .ok (.iastore, 1) := by decide +kernel
theorem dX2_joins_101 : decode cX2_joins 101 = .ok (.aload_n 0, 1) := by decide +kernel
theorem dX2_joins_102 : decode cX2_joins 102 = .ok (.getfield 29, 3) := by decide +kernel
theorem dX2_joins_105 : decode cX2_joins 105 = .ok (.iload_n 1, 1) := by decide +kernel
theorem dX2_joins_106 : decode cX2_joins 106 = .ok (.iaload, 1) := by decide +kernel
theorem dX2_joins_107 : decode cX2_joins 107 = .ok (.bipush (-9), 2) := by decide +kernel
theorem dX2_joins_109 : decode cX2_joins 109 = .ok (.if_icmp .eq 32, 3) := by decide +kernel
theorem dX2_joins_112 : decode cX2_joins 112 = .ok (.aload_n 0, 1) := by decide +kernel
theorem dX2_joins_113 : decode cX2_joins 113 = .ok (.getfield 20, 3) := by decide +kernel
theorem dX2_joins_116 : decode cX2_joins 116 = .ok (.iload_n 1, 1) := by decide +kernel
theorem dX2_joins_117 : decode cX2_joins 117 = .ok (.iaload, 1) := by decide +kernel
theorem dX2_joins_118 : decode cX2_joins 118 = .ok (.iconst 1, 1) := by decide +kernel
theorem dX2_joins_119 : decode cX2_joins 119 = .ok (.aload_n 0, 1) := by decide +kernel
theorem dX2_joins_120 : decode cX2_joins 120 = .ok (.getfield 29, 3) := by decide +kernel
theorem dX2_joins_123 : decode cX2_joins 123 = .ok (.iload_n 1, 1) := by decide +kernel
theorem dX2_joins_124 : decode cX2_joins 124 = .ok (.iaload, 1) := by decide +kernel
theorem dX2_joins_125 : decode cX2_joins 125 = .ok (.iconst 1, 1) := by decide +kernel
theorem dX2_joins_126 : decode cX2_joins 126 = .ok (.iadd, 1) := by decide +kernel
theorem dX2_joins_127 : decode cX2_joins 127 = .ok (.ishl, 1) := by decide +kernel
theorem dX2_joins_128 : decode cX2_joins 128 = .ok (.iconst 1, 1) := by decide +kernel
theorem dX2_joins_129 : decode cX2_joins 129 = .ok (.isub, 1) := by decide +kernel
theorem dX2_joins_130 : decode cX2_joins 130 = .ok (.if_icmp .ne 11, 3) := by decide +kernel
theorem dX2_joins_133 : decode cX2_joins 133 = .ok (.aload_n 0, 1) := by decide +kernel
theorem dX2_joins_134 : decode cX2_joins 134 = .ok (.iload_n 1, 1) := by decide +kernel
theorem dX2_joins_135 : decode cX2_joins 135 = .ok (.iconst 0, 1) := by decide +kernel
theorem dX2_joins_136 : decode cX2_joins 136 = .ok (.invokevirtual 85, 3) := by decide +kernel
theorem dX2_joins_139 : decode cX2_joins 139 = .ok (.iconst 2, 1) := by decide +kernel
theorem dX2_joins_140 : decode cX2_joins 140 = .ok (.ireturn, 1) := by decide +kernel
theorem dX2_joins_141 : decode cX2_joins 141 = .ok (.iconst 1, 1) := by decide +kernel
theorem dX2_joins_142 : decode cX2_joins 142 = .ok (.ireturn, 1) := by decide +kernel
theorem dX2_comes_0 : decode cX2_comes 0 = .ok (.aload_n 0, 1) := by decide +kernel
theorem dX2_comes_1 : decode cX2_comes 1 = .ok (.iload_n 1, 1) := by decide +kernel
theorem dX2_comes_2 : decode cX2_comes 2 = .ok (.invokevirtual 61, 3) := by decide +kernel
theorem dX2_comes_5 : decode cX2_comes 5 = .ok (.bipush (-9), 2) := by decide +kernel
theorem dX2_comes_7 : decode cX2_comes 7 = .ok (.if_icmp .ne 6, 3) := by decide +kernel
theorem dX2_comes_10 : decode cX2_comes 10 = .ok (.bipush 7, 2) := by decide +kernel
theorem dX2_comes_12 : decode cX2_comes 12 = .ok (.ireturn, 1) := by decide +kernel
theorem dX2_comes_13 : decode cX2_comes 13 = .ok (.aload_n 0, 1) := by decide +kernel
theorem dX2_comes_14 : decode cX2_comes 14 = .ok (.getfield 17, 3) := by decide +kernel
theorem dX2_comes_17 : decode cX2_comes 17 = .ok (.iload_n 1, 1) := by decide +kernel
theorem dX2_comes_18 : decode cX2_comes 18 = .ok (.iaload, 1) := by decide +kernel
theorem dX2_comes_19 : decode cX2_comes 19 = .ok (.bipush (-9), 2) := by decide +kernel
theorem dX2_comes_21 : decode cX2_comes 21 = .ok (.if_icmp .eq 13, 3) := by decide +kernel
theorem dX2_comes_24 : decode cX2_comes 24 = .ok (.aload_n 0, 1) := by decide +kernel
theorem dX2_comes_25 : decode cX2_comes 25 = .ok (.iload_n 1, 1) := by decide +kernel
theorem dX2_comes_26 : decode cX2_comes 26 = .ok (.iload_n 2, 1) := by decide +kernel
theorem dX2_comes_27 : decode cX2_comes 27 = .ok (.iload_n 3, 1) := by decide +kernel
theorem dX2_comes_28 : decode cX2_comes 28 = .ok (.iload 5, 2) := by decide +kernel
theorem dX2_comes_30 : decode cX2_comes 30 = .ok (.invokevirtual 89, 3) := by decide +kernel
theorem dX2_comes_33 : decode cX2_comes 33 = .ok (.ireturn, 1) := by decide +kernel
theorem dX2_comes_34 : decode cX2_comes 34 = .ok (.aload_n 0, 1) := by decide +kernel
theorem dX2_comes_35 : decode cX2_comes 35 = .ok (.iload_n 1, 1) := by decide +kernel
theorem dX2_comes_36 : decode cX2_comes 36 = .ok (.invokevirtual 93, 3) := by decide +kernel
theorem dX2_comes_39 : decode cX2_comes 39 = .ok (.ifCond .eq 97, 3) := by decide +kernel
theorem dX2_comes_42 : decode cX2_comes 42 = .ok (.aload_n 0, 1) := by decide +kernel
theorem dX2_comes_43 : decode cX2_comes 43 = .ok (.iload_n 1, 1) := by decide +kernel
theorem dX2_comes_44 : decode cX2_comes 44 = .ok (.invokevirtual 97, 3) := by decide +kernel
theorem dX2_comes_47 : decode cX2_comes 47 = .ok (.istore 6, 2) := by decide +kernel
theorem dX2_comes_49 : decode cX2_comes 49 = .ok (.iload 6, 2) := by decide +kernel
theorem dX2_comes_51 : decode cX2_comes 51 = .ok (.bipush (-9), 2) := by decide +kernel
theorem dX2_comes_53 : decode cX2_comes 53 = .ok (.if_icmp .eq 43, 3) := by decide +kernel
theorem dX2_comes_56 : decode cX2_comes 56 = .ok (.aload_n 0, 1) := by decide +kernel
theorem dX2_comes_57 : decode cX2_comes 57 = .ok (.getfield 79, 3) := by decide +kernel
theorem dX2_comes_60 : decode cX2_comes 60 = .ok (.aload_n 0, 1) := by decide +kernel
theorem dX2_comes_61 : decode cX2_comes 61 = .ok (.getfield 38, 3) := by decide +kernel
end
section
theorem dX2_comes_64 : decode cX2_comes 64 = .ok (.iload_n 1, 1) := by decide +kernel
theorem dX2_comes_65 : decode cX2_comes 65 = .ok (.iaload, 1) := by decide +kernel
theorem dX2_comes_66 : decode cX2_comes 66 = .ok (.isub, 1) := by decide +kernel
theorem dX2_comes_67 : decode cX2_comes 67 = .ok (.aload_n 0, 1) := by decide +kernel
theorem dX2_comes_68 : decode cX2_comes 68 = .ok (.getfield 13, 3) := by decide +kernel
theorem dX2_comes_71 : decode cX2_comes 71 = .ok (.iconst 5, 1) := by decide +kernel
theorem dX2_comes_72 : decode cX2_comes 72 = .ok (.iaload, 1) := by decide +kernel
theorem dX2_comes_73 : decode cX2_comes 73 = .ok (.if_icmp .gt 23, 3) := by decide +kernel
theorem dX2_comes_76 : decode cX2_comes 76 = .ok (.aload_n 0, 1) := by decide +kernel
theorem dX2_comes_77 : decode cX2_comes 77 = .ok (.getfield 41, 3) := by decide +kernel
theorem dX2_comes_80 : decode cX2_comes 80 = .ok (.bipush 8, 2) := by decide +kernel
theorem dX2_comes_82 : decode cX2_comes 82 = .ok (.iload 6, 2) := by decide +kernel
theorem dX2_comes_84 : decode cX2_comes 84 = .ok (.imul, 1) := by decide +kernel
theorem dX2_comes_85 : decode cX2_comes 85 = .ok (.iconst 1, 1) := by decide +kernel
theorem dX2_comes_86 : decode cX2_comes 86 = .ok (.iadd, 1) := by decide +kernel
theorem dX2_comes_87 : decode cX2_comes 87 = .ok (.iaload, 1) := by decide +kernel
theorem dX2_comes_88 : decode cX2_comes 88 = .ok (.iload_n 2, 1) := by decide +kernel
theorem dX2_comes_89 : decode cX2_comes 89 = .ok (.ishr, 1) := by decide +kernel
theorem dX2_comes_90 : decode cX2_comes 90 = .ok (.iconst 1, 1) := by decide +kernel
theorem dX2_comes_91 : decode cX2_comes 91 = .ok (.iand, 1) := by decide +kernel
theorem dX2_comes_92 : decode cX2_comes 92 = .ok (.iconst 1, 1) := by decide +kernel
theorem dX2_comes_93 : decode cX2_comes 93 = .ok (.if_icmp .ne 6, 3) := by decide +kernel
theorem dX2_comes_96 : decode cX2_comes 96 = .ok (.bipush 6, 2) := by decide +kernel
theorem dX2_comes_98 : decode cX2_comes 98 = .ok (.ireturn, 1) := by decide +kernel
theorem dX2_comes_99 : decode cX2_comes 99 = .ok (.aload_n 0, 1) := by decide +kernel
theorem dX2_comes_100 : decode cX2_comes 100 = .ok (.getfield 41, 3) := by decide +kernel
theorem dX2_comes_103 : decode cX2_comes 103 = .ok (.bipush 8, 2) := by decide +kernel
theorem dX2_comes_105 : decode cX2_comes 105 = .ok (.iload 6, 2) := by decide +kernel
theorem dX2_comes_107 : decode cX2_comes 107 = .ok (.imul, 1) := by decide +kernel
theorem dX2_comes_108 : decode cX2_comes 108 = .ok (.iconst 1, 1) := by decide +kernel
theorem dX2_comes_109 : decode cX2_comes 109 = .ok (.iadd, 1) := by decide +kernel
theorem dX2_comes_110 : decode cX2_comes 110 = .ok (.dup2, 1) := by decide +kernel
theorem dX2_comes_111 : decode cX2_comes 111 = .ok (.iaload, 1) := by decide +kernel
theorem dX2_comes_112 : decode cX2_comes 112 = .ok (.iconst 1, 1) := by decide +kernel
theorem dX2_comes_113 : decode cX2_comes 113 = .ok (.iload_n 2, 1) := by decide +kernel
theorem dX2_comes_114 : decode cX2_comes 114 = .ok (.ishl, 1) := by decide +kernel
theorem dX2_comes_115 : decode cX2_comes 115 = .ok (.ior, 1) := by decide +kernel
theorem dX2_comes_116 : decode cX2_comes 116 = .ok (.iastore, 1) := by decide +kernel
theorem dX2_comes_117 : decode cX2_comes 117 = .ok (.aload_n 0, 1) := by decide +kernel
theorem dX2_comes_118 : decode cX2_comes 118 = .ok (.getfield 41, 3) := by decide +kernel
theorem dX2_comes_121 : decode cX2_comes 121 = .ok (.bipush 8, 2) := by decide +kernel
theorem dX2_comes_123 : decode cX2_comes 123 = .ok (.iload 6, 2) := by decide +kernel
theorem dX2_comes_125 : decode cX2_comes 125 = .ok (.imul, 1) := by decide +kernel
theorem dX2_comes_126 : decode cX2_comes 126 = .ok (.iconst 3, 1) := by decide +kernel
theorem dX2_comes_127 : decode cX2_comes 127 = .ok (.iadd, 1) := by decide +kernel
theorem dX2_comes_128 : decode cX2_comes 128 = .ok (.dup2, 1) := by decide +kernel
theorem dX2_comes_129 : decode cX2_comes 129 = .ok (.iaload, 1) := by decide +kernel
theorem dX2_comes_130 : decode cX2_comes 130 = .ok (.iload 5, 2) := by decide +kernel
theorem dX2_comes_132 : decode cX2_comes 132 = .ok (.iadd, 1) := by decide +kernel
theorem dX2_comes_133 : decode cX2_comes 133 = .ok (.iastore, 1) := by decide +kernel
theorem dX2_comes_134 : decode cX2_comes 134 = .ok (.iconst 5, 1) := by decide +kernel
theorem dX2_comes_135 : decode cX2_comes 135 = .ok (.ireturn, 1) := by decide +kernel
theorem dX2_comes_136 : decode cX2_comes 136 = .ok (.aload_n 0, 1) := by decide +kernel
theorem dX2_comes_137 : decode cX2_comes 137 = .ok (.invokevirtual 100, 3) := by decide +kernel
theorem dX2_comes_140 : decode cX2_comes 140 = .ok (.bipush 24, 2) := by decide +kernel
theorem dX2_comes_142 : decode cX2_comes 142 = .ok (.if_icmp .ne 6, 3) := by decide +kernel
theorem dX2_comes_145 : decode cX2_comes 145 = .ok (.bipush 7, 2) := by decide +kernel
theorem dX2_comes_147 : decode cX2_comes 147 = .ok (.ireturn, 1) := by decide +kernel
theorem dX2_comes_148 : decode cX2_comes 148 = .ok (.aload_n 0, 1) := by decide +kernel
theorem dX2_comes_149 : decode cX2_comes 149 = .ok (.getfield 17, 3) := by decide +kernel
theorem dX2_comes_152 : decode cX2_comes 152 = .ok (.iload_n 1, 1) := by decide +kernel
theorem dX2_comes_153 : decode cX2_comes 153 = .ok (.aload_n 0, 1) := by decide +kernel
theorem dX2_comes_154 : decode cX2_comes 154 = .ok (.iload_n 1, 1) := by decide +kernel
theorem dX2_comes_155 : decode cX2_comes 155 = .ok (.invokevirtual 61, 3) := by decide +kernel
theorem dX2_comes_158 : decode cX2_comes 158 = .ok (.iastore, 1) := by decide +kernel
theorem dX2_comes_159 : decode cX2_comes 159 = .ok (.aload_n 0, 1) := by decide +kernel
theorem dX2_comes_160 : decode cX2_comes 160 = .ok (.getfield 20, 3) := by decide +kernel
theorem dX2_comes_163 : decode cX2_comes 163 = .ok (.iload_n 1, 1) := by decide +kernel
theorem dX2_comes_164 : decode cX2_comes 164 = .ok (.iconst 0, 1) := by decide +kernel
theorem dX2_comes_165 : decode cX2_comes 165 = .ok (.iastore, 1) := by decide +kernel
theorem dX2_comes_166 : decode cX2_comes 166 = .ok (.aload_n 0, 1) := by decide +kernel
theorem dX2_comes_167 : decode cX2_comes 167 = .ok (.getfield 23, 3) := by decide +kernel
theorem dX2_comes_170 : decode cX2_comes 170 = .ok (.iload_n 1, 1) := by decide +kernel
theorem dX2_comes_171 : decode cX2_comes 171 = .ok (.iload 4, 2) := by decide +kernel
theorem dX2_comes_173 : decode cX2_comes 173 = .ok (.iastore, 1) := by decide +kernel
theorem dX2_comes_174 : decode cX2_comes 174 = .ok (.aload_n 0, 1) := by decide +kernel
theorem dX2_comes_175 : decode cX2_comes 175 = .ok (.getfield 26, 3) := by decide +kernel
theorem dX2_comes_178 : decode cX2_comes 178 = .ok (.iload_n 1, 1) := by decide +kernel
theorem dX2_comes_179 : decode cX2_comes 179 = .ok (.iconst 0, 1) := by decide +kernel
theorem dX2_comes_180 : decode cX2_comes 180 = .ok (.iastore, 1) := by decide +kernel
theorem dX2_comes_181 : decode cX2_comes 181 = .ok (.aload_n 0, 1) := by decide +kernel
theorem dX2_comes_182 : decode cX2_comes 182 = .ok (.getfield 29, 3) := by decide +kernel
theorem dX2_comes_185 : decode cX2_comes 185 = .ok (.iload_n 1, 1) := by decide +kernel
theorem dX2_comes_186 : decode cX2_comes 186 = .ok (.bipush (-9), 2) := by decide +kernel
theorem dX2_comes_188 : decode cX2_comes 188 = .ok (.iastore, 1) := by decide +kernel
theorem dX2_comes_189 : decode cX2_comes 189 = .ok (.aload_n 0, 1) := by decide +kernel
theorem dX2_comes_190 : decode cX2_comes 190 = .ok (.getfield 32, 3) := by decide +kernel
theorem dX2_comes_193 : decode cX2_comes 193 = .ok (.iload_n 1, 1) := by decide +kernel
theorem dX2_comes_194 : decode cX2_comes 194 = .ok (.aload_n 0, 1) := by decide +kernel
theorem dX2_comes_195 : decode cX2_comes 195 = .ok (.getfield 79, 3) := by decide +kernel
theorem dX2_comes_198 : decode cX2_comes 198 = .ok (.iastore, 1) := by decide +kernel
theorem dX2_comes_199 : decode cX2_comes 199 = .ok (.aload_n 0, 1) := by decide +kernel
theorem dX2_comes_200 : decode cX2_comes 200 = .ok (.iload_n 1, 1) := by decide +kernel
theorem dX2_comes_201 : decode cX2_comes 201 = .ok (.iload_n 2, 1) := by decide +kernel
theorem dX2_comes_202 : decode cX2_comes 202 = .ok (.iload_n 3, 1) := by decide +kernel
theorem dX2_comes_203 : decode cX2_comes 203 = .ok (.iload 5, 2) := by decide +kernel
theorem dX2_comes_205 : decode cX2_comes 205 = .ok (.invokevirtual 89, 3) := by decide +kernel
theorem dX2_comes_208 : decode cX2_comes 208 = .ok (.ireturn, 1) := by decide +kernel
theorem dX2_piece_0 : decode cX2_piece 0 = .ok (.aload_n 0, 1) := by decide +kernel
theorem dX2_piece_1 : decode cX2_piece 1 = .ok (.iconst 0, 1) := by decide +kernel
theorem dX2_piece_2 : decode cX2_piece 2 = .ok (.putfield 53, 3) := by decide +kernel
theorem dX2_piece_5 : decode cX2_piece 5 = .ok (.iload_n 1, 1) := by decide +kernel
theorem dX2_piece_6 : decode cX2_piece 6 = .ok (.iconst 0, 1) := by decide +kernel
theorem dX2_piece_7 : decode cX2_piece 7 = .ok (.bipush 99, 2) := by decide +kernel
theorem dX2_piece_9 : decode cX2_piece 9 = .ok (.invokestatic 57, 3) := by decide +kernel
theorem dX2_piece_12 : decode cX2_piece 12 = .ok (.ifCond .eq 35, 3) := by decide +kernel
theorem dX2_piece_15 : decode cX2_piece 15 = .ok (.iload_n 2, 1) := by decide +kernel
theorem dX2_piece_16 : decode cX2_piece 16 = .ok (.iconst 0, 1) := by decide +kernel
theorem dX2_piece_17 : decode cX2_piece 17 = .ok (.bipush 7, 2) := by decide +kernel
theorem dX2_piece_19 : decode cX2_piece 19 = .ok (.invokestatic 57, 3) := by decide +kernel
theorem dX2_piece_22 : decode cX2_piece 22 = .ok (.ifCond .eq 25, 3) := by decide +kernel
theorem dX2_piece_25 : decode cX2_piece 25 = .ok (.iload 4, 2) := by decide +kernel
theorem dX2_piece_27 : decode cX2_piece 27 = .ok (.iconst 0, 1) := by decide +kernel
theorem dX2_piece_28 : decode cX2_piece 28 = .ok (.iconst 4, 1) := by decide +kernel
theorem dX2_piece_29 : decode cX2_piece 29 = .ok (.invokestatic 57, 3) := by decide +kernel
theorem dX2_piece_32 : decode cX2_piece 32 = .ok (.ifCond .eq 15, 3) := by decide +kernel
theorem dX2_piece_35 : decode cX2_piece 35 = .ok (.iload 5, 2) := by decide +kernel
theorem dX2_piece_37 : decode cX2_piece 37 = .ok (.iconst 1, 1) := by decide +kernel
theorem dX2_piece_38 : decode cX2_piece 38 = .ok (.sipush 1000, 3) := by decide +kernel
theorem dX2_piece_41 : decode cX2_piece 41 = .ok (.invokestatic 57, 3) := by decide +kernel
theorem dX2_piece_44 : decode cX2_piece 44 = .ok (.ifCond .ne 5, 3) := by decide +kernel
theorem dX2_piece_47 : decode cX2_piece 47 = .ok (.iconst (-1), 1) := by decide +kernel
theorem dX2_piece_48 : decode cX2_piece 48 = .ok (.ireturn, 1) := by decide +kernel
theorem dX2_piece_49 : decode cX2_piece 49 = .ok (.aload_n 0, 1) := by decide +kernel
theorem dX2_piece_50 : decode cX2_piece 50 = .ok (.iload_n 1, 1) := by decide +kernel
theorem dX2_piece_51 : decode cX2_piece 51 = .ok (.iload_n 2, 1) := by decide +kernel
theorem dX2_piece_52 : decode cX2_piece 52 = .ok (.iload_n 3, 1) := by decide +kernel
theorem dX2_piece_53 : decode cX2_piece 53 = .ok (.iload 4, 2) := by decide +kernel
theorem dX2_piece_55 : decode cX2_piece 55 = .ok (.iload 5, 2) := by decide +kernel
theorem dX2_piece_57 : decode cX2_piece 57 = .ok (.invokevirtual 104, 3) := by decide +kernel
theorem dX2_piece_60 : decode cX2_piece 60 = .ok (.istore 6, 2) := by decide +kernel
theorem dX2_piece_62 : decode cX2_piece 62 = .ok (.iload 6, 2) := by decide +kernel
theorem dX2_piece_64 : decode cX2_piece 64 = .ok (.iconst 3, 1) := by decide +kernel
theorem dX2_piece_65 : decode cX2_piece 65 = .ok (.if_icmp .lt 16, 3) := by decide +kernel
theorem dX2_piece_68 : decode cX2_piece 68 = .ok (.aload_n 0, 1) := by decide +kernel
theorem dX2_piece_69 : decode cX2_piece 69 = .ok (.getfield 50, 3) := by decide +kernel
theorem dX2_piece_72 : decode cX2_piece 72 = .ok (.iload 6, 2) := by decide +kernel
theorem dX2_piece_74 : decode cX2_piece 74 = .ok (.iconst 2, 1) := by decide +kernel
theorem dX2_piece_75 : decode cX2_piece 75 = .ok (.iadd, 1) := by decide +kernel
theorem dX2_piece_76 : decode cX2_piece 76 = .ok (.dup2, 1) := by decide +kernel
theorem dX2_piece_77 : decode cX2_piece 77 = .ok (.iaload, 1) := by decide +kernel
theorem dX2_piece_78 : decode cX2_piece 78 = .ok (.iconst 1, 1) := by decide +kernel
theorem dX2_piece_79 : decode cX2_piece 79 = .ok (.iadd, 1) := by decide +kernel
theorem dX2_piece_80 : decode cX2_piece 80 = .ok (.iastore, 1) := by decide +kernel
theorem dX2_piece_81 : decode cX2_piece 81 = .ok (.iload 6, 2) := by decide +kernel
theorem dX2_piece_83 : decode cX2_piece 83 = .ok (.ireturn, 1) := by decide +kernel
theorem dX2_tick_0 : decode cX2_tick 0 = .ok (.aload_n 0, 1) := by decide +kernel
theorem dX2_tick_1 : decode cX2_tick 1 = .ok (.iconst 0, 1) := by decide +kernel
theorem dX2_tick_2 : decode cX2_tick 2 = .ok (.putfield 53, 3) := by decide +kernel
theorem dX2_tick_5 : decode cX2_tick 5 = .ok (.iload_n 1, 1) := by decide +kernel
theorem dX2_tick_6 : decode cX2_tick 6 = .ok (.iconst 1, 1) := by decide +kernel
theorem dX2_tick_7 : decode cX2_tick 7 = .ok (.bipush 60, 2) := by decide +kernel
theorem dX2_tick_9 : decode cX2_tick 9 = .ok (.invokestatic 57, 3) := by decide +kernel
theorem dX2_tick_12 : decode cX2_tick 12 = .ok (.ifCond .ne 5, 3) := by decide +kernel
theorem dX2_tick_15 : decode cX2_tick 15 = .ok (.iconst (-1), 1) := by decide +kernel
theorem dX2_tick_16 : decode cX2_tick 16 = .ok (.ireturn, 1) := by decide +kernel
theorem dX2_tick_17 : decode cX2_tick 17 = .ok (.aload_n 0, 1) := by decide +kernel
theorem dX2_tick_18 : decode cX2_tick 18 = .ok (.getfield 50, 3) := by decide +kernel
theorem dX2_tick_21 : decode cX2_tick 21 = .ok (.bipush 10, 2) := by decide +kernel
theorem dX2_tick_23 : decode cX2_tick 23 = .ok (.iaload, 1) := by decide +kernel
theorem dX2_tick_24 : decode cX2_tick 24 = .ok (.istore_n 2, 1) := by decide +kernel
theorem dX2_tick_25 : decode cX2_tick 25 = .ok (.iconst 0, 1) := by decide +kernel
theorem dX2_tick_26 : decode cX2_tick 26 = .ok (.istore_n 3, 1) := by decide +kernel
theorem dX2_tick_27 : decode cX2_tick 27 = .ok (.iload_n 3, 1) := by decide +kernel
theorem dX2_tick_28 : decode cX2_tick 28 = .ok (.iload_n 1, 1) := by decide +kernel
theorem dX2_tick_29 : decode cX2_tick 29 = .ok (.if_icmp .ge 75, 3) := by decide +kernel
theorem dX2_tick_32 : decode cX2_tick 32 = .ok (.aload_n 0, 1) := by decide +kernel
theorem dX2_tick_33 : decode cX2_tick 33 = .ok (.dup, 1) := by decide +kernel
theorem dX2_tick_34 : decode cX2_tick 34 = .ok (.getfield 79, 3) := by decide +kernel
theorem dX2_tick_37 : decode cX2_tick 37 = .ok (.iconst 1, 1) := by decide +kernel
theorem dX2_tick_38 : decode cX2_tick 38 = .ok (.iadd, 1) := by decide +kernel
theorem dX2_tick_39 : decode cX2_tick 39 = .ok (.putfield 79, 3) := by decide +kernel
theorem dX2_tick_42 : decode cX2_tick 42 = .ok (.iconst 0, 1) := by decide +kernel
theorem dX2_tick_43 : decode cX2_tick 43 = .ok (.istore 4, 2) := by decide +kernel
theorem dX2_tick_45 : decode cX2_tick 45 = .ok (.iload 4, 2) := by decide +kernel
theorem dX2_tick_47 : decode cX2_tick 47 = .ok (.bipush 100, 2) := by decide +kernel
theorem dX2_tick_49 : decode cX2_tick 49 = .ok (.if_icmp .ge 49, 3) := by decide +kernel
theorem dX2_tick_52 : decode cX2_tick 52 = .ok (.aload_n 0, 1) := by decide +kernel
theorem dX2_tick_53 : decode cX2_tick 53 = .ok (.getfield 17, 3) := by decide +kernel
theorem dX2_tick_56 : decode cX2_tick 56 = .ok (.iload 4, 2) := by decide +kernel
theorem dX2_tick_58 : decode cX2_tick 58 = .ok (.iaload, 1) := by decide +kernel
theorem dX2_tick_59 : decode cX2_tick 59 = .ok (.bipush (-9), 2) := by decide +kernel
theorem dX2_tick_61 : decode cX2_tick 61 = .ok (.if_icmp .eq 31, 3) := by decide +kernel
theorem dX2_tick_64 : decode cX2_tick 64 = .ok (.aload_n 0, 1) := by decide +kernel
theorem dX2_tick_65 : decode cX2_tick 65 = .ok (.getfield 79, 3) := by decide +kernel
theorem dX2_tick_68 : decode cX2_tick 68 = .ok (.aload_n 0, 1) := by decide +kernel
theorem dX2_tick_69 : decode cX2_tick 69 = .ok (.getfield 32, 3) := by decide +kernel
theorem dX2_tick_72 : decode cX2_tick 72 = .ok (.iload 4, 2) := by decide +kernel
theorem dX2_tick_74 : decode cX2_tick 74 = .ok (.iaload, 1) := by decide +kernel
theorem dX2_tick_75 : decode cX2_tick 75 = .ok (.isub, 1) := by decide +kernel
theorem dX2_tick_76 : decode cX2_tick 76 = .ok (.aload_n 0, 1) := by decide +kernel
theorem dX2_tick_77 : decode cX2_tick 77 = .ok (.getfield 13, 3) := by decide +kernel
theorem dX2_tick_80 : decode cX2_tick 80 = .ok (.iconst 4, 1) := by decide +kernel
theorem dX2_tick_81 : decode cX2_tick 81 = .ok (.iaload, 1) := by decide +kernel
theorem dX2_tick_82 : decode cX2_tick 82 = .ok (.if_icmp .lt 10, 3) := by decide +kernel
theorem dX2_tick_85 : decode cX2_tick 85 = .ok (.aload_n 0, 1) := by decide +kernel
theorem dX2_tick_86 : decode cX2_tick 86 = .ok (.iload 4, 2) := by decide +kernel
theorem dX2_tick_88 : decode cX2_tick 88 = .ok (.iconst 1, 1) := by decide +kernel
theorem dX2_tick_89 : decode cX2_tick 89 = .ok (.invokevirtual 85, 3) := by decide +kernel
theorem dX2_tick_92 : decode cX2_tick 92 = .ok (.iinc 4 1, 3) := by decide +kernel
theorem dX2_tick_95 : decode cX2_tick 95 = .ok (.goto (-50), 3) := by decide +kernel
theorem dX2_tick_98 : decode cX2_tick 98 = .ok (.iinc 3 1, 3) := by decide +kernel
theorem dX2_tick_101 : decode cX2_tick 101 = .ok (.goto (-74), 3) := by decide +kernel
theorem dX2_tick_104 : decode cX2_tick 104 = .ok (.aload_n 0, 1) := by decide +kernel
theorem dX2_tick_105 : decode cX2_tick 105 = .ok (.getfield 50, 3) := by decide +kernel
theorem dX2_tick_108 : decode cX2_tick 108 = .ok (.bipush 10, 2) := by decide +kernel
theorem dX2_tick_110 : decode cX2_tick 110 = .ok (.iaload, 1) := by decide +kernel
theorem dX2_tick_111 : decode cX2_tick 111 = .ok (.iload_n 2, 1) := by decide +kernel
theorem dX2_tick_112 : decode cX2_tick 112 = .ok (.isub, 1) := by decide +kernel
theorem dX2_tick_113 : decode cX2_tick 113 = .ok (.ireturn, 1) := by decide +kernel
theorem dX2_waits_0 : decode cX2_waits 0 = .ok (.aload_n 0, 1) := by decide +kernel
theorem dX2_waits_1 : decode cX2_waits 1 = .ok (.iconst 0, 1) := by decide +kernel
theorem dX2_waits_2 : decode cX2_waits 2 = .ok (.putfield 53, 3) := by decide +kernel
theorem dX2_waits_5 : decode cX2_waits 5 = .ok (.iload_n 1, 1) := by decide +kernel
theorem dX2_waits_6 : decode cX2_waits 6 = .ok (.iconst 0, 1) := by decide +kernel
theorem dX2_waits_7 : decode cX2_waits 7 = .ok (.bipush 99, 2) := by decide +kernel
theorem dX2_waits_9 : decode cX2_waits 9 = .ok (.invokestatic 57, 3) := by decide +kernel
theorem dX2_waits_12 : decode cX2_waits 12 = .ok (.ifCond .eq 12, 3) := by decide +kernel
theorem dX2_waits_15 : decode cX2_waits 15 = .ok (.iload_n 2, 1) := by decide +kernel
theorem dX2_waits_16 : decode cX2_waits 16 = .ok (.iconst 0, 1) := by decide +kernel
theorem dX2_waits_17 : decode cX2_waits 17 = .ok (.iconst 5, 1) := by decide +kernel
theorem dX2_waits_18 : decode cX2_waits 18 = .ok (.invokestatic 57, 3) := by decide +kernel
theorem dX2_waits_21 : decode cX2_waits 21 = .ok (.ifCond .ne 5, 3) := by decide +kernel
theorem dX2_waits_24 : decode cX2_waits 24 = .ok (.iconst (-1), 1) := by decide +kernel
theorem dX2_waits_25 : decode cX2_waits 25 = .ok (.ireturn, 1) := by decide +kernel
theorem dX2_waits_26 : decode cX2_waits 26 = .ok (.aload_n 0, 1) := by decide +kernel
theorem dX2_waits_27 : decode cX2_waits 27 = .ok (.getfield 17, 3) := by decide +kernel
theorem dX2_waits_30 : decode cX2_waits 30 = .ok (.iload_n 1, 1) := by decide +kernel
theorem dX2_waits_31 : decode cX2_waits 31 = .ok (.iaload, 1) := by decide +kernel
theorem dX2_waits_32 : decode cX2_waits 32 = .ok (.bipush (-9), 2) := by decide +kernel
theorem dX2_waits_34 : decode cX2_waits 34 = .ok (.if_icmp .ne 6, 3) := by decide +kernel
theorem dX2_waits_37 : decode cX2_waits 37 = .ok (.bipush (-9), 2) := by decide +kernel
theorem dX2_waits_39 : decode cX2_waits 39 = .ok (.ireturn, 1) := by decide +kernel
theorem dX2_waits_40 : decode cX2_waits 40 = .ok (.iload_n 2, 1) := by decide +kernel
theorem dX2_waits_41 : decode cX2_waits 41 = .ok (.tableswitch 70 0 4 #[35, 42, 49, 56, 63], 35) := by decide +kernel
theorem dX2_waits_76 : decode cX2_waits 76 = .ok (.aload_n 0, 1) := by decide +kernel
theorem dX2_waits_77 : decode cX2_waits 77 = .ok (.getfield 17, 3) := by decide +kernel
theorem dX2_waits_80 : decode cX2_waits 80 = .ok (.iload_n 1, 1) := by decide +kernel
theorem dX2_waits_81 : decode cX2_waits 81 = .ok (.iaload, 1) := by decide +kernel
theorem dX2_waits_82 : decode cX2_waits 82 = .ok (.ireturn, 1) := by decide +kernel
theorem dX2_waits_83 : decode cX2_waits 83 = .ok (.aload_n 0, 1) := by decide +kernel
theorem dX2_waits_84 : decode cX2_waits 84 = .ok (.getfield 20, 3) := by decide +kernel
theorem dX2_waits_87 : decode cX2_waits 87 = .ok (.iload_n 1, 1) := by decide +kernel
theorem dX2_waits_88 : decode cX2_waits 88 = .ok (.iaload, 1) := by decide +kernel
theorem dX2_waits_89 : decode cX2_waits 89 = .ok (.ireturn, 1) := by decide +kernel
theorem dX2_waits_90 : decode cX2_waits 90 = .ok (.aload_n 0, 1) := by decide +kernel
theorem dX2_waits_91 : decode cX2_waits 91 = .ok (.getfield 23, 3) := by decide +kernel
theorem dX2_waits_94 : decode cX2_waits 94 = .ok (.iload_n 1, 1) := by decide +kernel
theorem dX2_waits_95 : decode cX2_waits 95 = .ok (.iaload, 1) := by decide +kernel
theorem dX2_waits_96 : decode cX2_waits 96 = .ok (.ireturn, 1) := by decide +kernel
theorem dX2_waits_97 : decode cX2_waits 97 = .ok (.aload_n 0, 1) := by decide +kernel
theorem dX2_waits_98 : decode cX2_waits 98 = .ok (.getfield 26, 3) := by decide +kernel
theorem dX2_waits_101 : decode cX2_waits 101 = .ok (.iload_n 1, 1) := by decide +kernel
theorem dX2_waits_102 : decode cX2_waits 102 = .ok (.iaload, 1) := by decide +kernel
theorem dX2_waits_103 : decode cX2_waits 103 = .ok (.ireturn, 1) := by decide +kernel
theorem dX2_waits_104 : decode cX2_waits 104 = .ok (.aload_n 0, 1) := by decide +kernel
theorem dX2_waits_105 : decode cX2_waits 105 = .ok (.getfield 29, 3) := by decide +kernel
theorem dX2_waits_108 : decode cX2_waits 108 = .ok (.iload_n 1, 1) := by decide +kernel
theorem dX2_waits_109 : decode cX2_waits 109 = .ok (.iaload, 1) := by decide +kernel
theorem dX2_waits_110 : decode cX2_waits 110 = .ok (.ireturn, 1) := by decide +kernel
theorem dX2_waits_111 : decode cX2_waits 111 = .ok (.aload_n 0, 1) := by decide +kernel
theorem dX2_waits_112 : decode cX2_waits 112 = .ok (.getfield 79, 3) := by decide +kernel
theorem dX2_waits_115 : decode cX2_waits 115 = .ok (.aload_n 0, 1) := by decide +kernel
theorem dX2_waits_116 : decode cX2_waits 116 = .ok (.getfield 32, 3) := by decide +kernel
theorem dX2_waits_119 : decode cX2_waits 119 = .ok (.iload_n 1, 1) := by decide +kernel
theorem dX2_waits_120 : decode cX2_waits 120 = .ok (.iaload, 1) := by decide +kernel
theorem dX2_waits_121 : decode cX2_waits 121 = .ok (.isub, 1) := by decide +kernel
theorem dX2_waits_122 : decode cX2_waits 122 = .ok (.ireturn, 1) := by decide +kernel
theorem dX2_remembered_0 : decode cX2_remembered 0 = .ok (.aload_n 0, 1) := by decide +kernel
theorem dX2_remembered_1 : decode cX2_remembered 1 = .ok (.iconst 0, 1) := by decide +kernel
theorem dX2_remembered_2 : decode cX2_remembered 2 = .ok (.putfield 53, 3) := by decide +kernel
theorem dX2_remembered_5 : decode cX2_remembered 5 = .ok (.iload_n 1, 1) := by decide +kernel
theorem dX2_remembered_6 : decode cX2_remembered 6 = .ok (.iconst 0, 1) := by decide +kernel
theorem dX2_remembered_7 : decode cX2_remembered 7 = .ok (.bipush 99, 2) := by decide +kernel
theorem dX2_remembered_9 : decode cX2_remembered 9 = .ok (.invokestatic 57, 3) := by decide +kernel
theorem dX2_remembered_12 : decode cX2_remembered 12 = .ok (.ifCond .ne 5, 3) := by decide +kernel
theorem dX2_remembered_15 : decode cX2_remembered 15 = .ok (.iconst (-1), 1) := by decide +kernel
theorem dX2_remembered_16 : decode cX2_remembered 16 = .ok (.ireturn, 1) := by decide +kernel
theorem dX2_remembered_17 : decode cX2_remembered 17 = .ok (.aload_n 0, 1) := by decide +kernel
theorem dX2_remembered_18 : decode cX2_remembered 18 = .ok (.iload_n 1, 1) := by decide +kernel
theorem dX2_remembered_19 : decode cX2_remembered 19 = .ok (.invokevirtual 93, 3) := by decide +kernel
theorem dX2_remembered_22 : decode cX2_remembered 22 = .ok (.ifCond .ne 8, 3) := by decide +kernel
theorem dX2_remembered_25 : decode cX2_remembered 25 = .ok (.bipush (-9), 2) := by decide +kernel
theorem dX2_remembered_27 : decode cX2_remembered 27 = .ok (.goto 18, 3) := by decide +kernel
theorem dX2_remembered_30 : decode cX2_remembered 30 = .ok (.aload_n 0, 1) := by decide +kernel
theorem dX2_remembered_31 : decode cX2_remembered 31 = .ok (.iload_n 1, 1) := by decide +kernel
theorem dX2_remembered_32 : decode cX2_remembered 32 = .ok (.invokevirtual 97, 3) := by decide +kernel
theorem dX2_remembered_35 : decode cX2_remembered 35 = .ok (.bipush (-9), 2) := by decide +kernel
theorem dX2_remembered_37 : decode cX2_remembered 37 = .ok (.if_icmp .ne 7, 3) := by decide +kernel
theorem dX2_remembered_40 : decode cX2_remembered 40 = .ok (.iconst 0, 1) := by decide +kernel
theorem dX2_remembered_41 : decode cX2_remembered 41 = .ok (.goto 4, 3) := by decide +kernel
theorem dX2_remembered_44 : decode cX2_remembered 44 = .ok (.iconst 1, 1) := by decide +kernel
theorem dX2_remembered_45 : decode cX2_remembered 45 = .ok (.ireturn, 1) := by decide +kernel
theorem dX2_kept_0 : decode cX2_kept 0 = .ok (.aload_n 0, 1) := by decide +kernel
theorem dX2_kept_1 : decode cX2_kept 1 = .ok (.iconst 0, 1) := by decide +kernel
theorem dX2_kept_2 : decode cX2_kept 2 = .ok (.putfield 53, 3) := by decide +kernel
theorem dX2_kept_5 : decode cX2_kept 5 = .ok (.iload_n 1, 1) := by decide +kernel
theorem dX2_kept_6 : decode cX2_kept 6 = .ok (.iconst 0, 1) := by decide +kernel
theorem dX2_kept_7 : decode cX2_kept 7 = .ok (.aload_n 0, 1) := by decide +kernel
theorem dX2_kept_8 : decode cX2_kept 8 = .ok (.getfield 82, 3) := by decide +kernel
theorem dX2_kept_11 : decode cX2_kept 11 = .ok (.iconst 1, 1) := by decide +kernel
theorem dX2_kept_12 : decode cX2_kept 12 = .ok (.isub, 1) := by decide +kernel
theorem dX2_kept_13 : decode cX2_kept 13 = .ok (.invokestatic 57, 3) := by decide +kernel
theorem dX2_kept_16 : decode cX2_kept 16 = .ok (.ifCond .eq 27, 3) := by decide +kernel
theorem dX2_kept_19 : decode cX2_kept 19 = .ok (.iload_n 2, 1) := by decide +kernel
theorem dX2_kept_20 : decode cX2_kept 20 = .ok (.iconst 0, 1) := by decide +kernel
theorem dX2_kept_21 : decode cX2_kept 21 = .ok (.bipush 6, 2) := by decide +kernel
theorem dX2_kept_23 : decode cX2_kept 23 = .ok (.invokestatic 57, 3) := by decide +kernel
theorem dX2_kept_26 : decode cX2_kept 26 = .ok (.ifCond .eq 17, 3) := by decide +kernel
theorem dX2_kept_29 : decode cX2_kept 29 = .ok (.aload_n 0, 1) := by decide +kernel
theorem dX2_kept_30 : decode cX2_kept 30 = .ok (.getfield 41, 3) := by decide +kernel
theorem dX2_kept_33 : decode cX2_kept 33 = .ok (.bipush 8, 2) := by decide +kernel
theorem dX2_kept_35 : decode cX2_kept 35 = .ok (.iload_n 1, 1) := by decide +kernel
theorem dX2_kept_36 : decode cX2_kept 36 = .ok (.imul, 1) := by decide +kernel
theorem dX2_kept_37 : decode cX2_kept 37 = .ok (.iload_n 2, 1) := by decide +kernel
theorem dX2_kept_38 : decode cX2_kept 38 = .ok (.iadd, 1) := by decide +kernel
theorem dX2_kept_39 : decode cX2_kept 39 = .ok (.iaload, 1) := by decide +kernel
theorem dX2_kept_40 : decode cX2_kept 40 = .ok (.goto 4, 3) := by decide +kernel
theorem dX2_kept_43 : decode cX2_kept 43 = .ok (.iconst (-1), 1) := by decide +kernel
theorem dX2_kept_44 : decode cX2_kept 44 = .ok (.ireturn, 1) := by decide +kernel
theorem dX2_take_0 : decode cX2_take 0 = .ok (.aload_n 0, 1) := by decide +kernel
theorem dX2_take_1 : decode cX2_take 1 = .ok (.iconst 0, 1) := by decide +kernel
theorem dX2_take_2 : decode cX2_take 2 = .ok (.putfield 53, 3) := by decide +kernel
theorem dX2_take_5 : decode cX2_take 5 = .ok (.iload_n 1, 1) := by decide +kernel
theorem dX2_take_6 : decode cX2_take 6 = .ok (.iconst 0, 1) := by decide +kernel
theorem dX2_take_7 : decode cX2_take 7 = .ok (.aload_n 0, 1) := by decide +kernel
theorem dX2_take_8 : decode cX2_take 8 = .ok (.getfield 82, 3) := by decide +kernel
theorem dX2_take_11 : decode cX2_take 11 = .ok (.iconst 1, 1) := by decide +kernel
theorem dX2_take_12 : decode cX2_take 12 = .ok (.isub, 1) := by decide +kernel
theorem dX2_take_13 : decode cX2_take 13 = .ok (.invokestatic 57, 3) := by decide +kernel
theorem dX2_take_16 : decode cX2_take 16 = .ok (.ifCond .ne 5, 3) := by decide +kernel
theorem dX2_take_19 : decode cX2_take 19 = .ok (.iconst (-1), 1) := by decide +kernel
theorem dX2_take_20 : decode cX2_take 20 = .ok (.ireturn, 1) := by decide +kernel
theorem dX2_take_21 : decode cX2_take 21 = .ok (.aload_n 0, 1) := by decide +kernel
theorem dX2_take_22 : decode cX2_take 22 = .ok (.getfield 41, 3) := by decide +kernel
theorem dX2_take_25 : decode cX2_take 25 = .ok (.bipush 8, 2) := by decide +kernel
theorem dX2_take_27 : decode cX2_take 27 = .ok (.iload_n 1, 1) := by decide +kernel
theorem dX2_take_28 : decode cX2_take 28 = .ok (.imul, 1) := by decide +kernel
theorem dX2_take_29 : decode cX2_take 29 = .ok (.iaload, 1) := by decide +kernel
theorem dX2_take_30 : decode cX2_take 30 = .ok (.istore_n 2, 1) := by decide +kernel
theorem dX2_take_31 : decode cX2_take 31 = .ok (.aload_n 0, 1) := by decide +kernel
theorem dX2_take_32 : decode cX2_take 32 = .ok (.getfield 41, 3) := by decide +kernel
theorem dX2_take_35 : decode cX2_take 35 = .ok (.bipush 8, 2) := by decide +kernel
theorem dX2_take_37 : decode cX2_take 37 = .ok (.iload_n 1, 1) := by decide +kernel
theorem dX2_take_38 : decode cX2_take 38 = .ok (.imul, 1) := by decide +kernel
theorem dX2_take_39 : decode cX2_take 39 = .ok (.iconst 2, 1) := by decide +kernel
theorem dX2_take_40 : decode cX2_take 40 = .ok (.iadd, 1) := by decide +kernel
theorem dX2_take_41 : decode cX2_take 41 = .ok (.iaload, 1) := by decide +kernel
theorem dX2_take_42 : decode cX2_take 42 = .ok (.istore_n 3, 1) := by decide +kernel
theorem dX2_take_43 : decode cX2_take 43 = .ok (.aload_n 0, 1) := by decide +kernel
theorem dX2_take_44 : decode cX2_take 44 = .ok (.getfield 41, 3) := by decide +kernel
theorem dX2_take_47 : decode cX2_take 47 = .ok (.bipush 8, 2) := by decide +kernel
theorem dX2_take_49 : decode cX2_take 49 = .ok (.iload_n 1, 1) := by decide +kernel
theorem dX2_take_50 : decode cX2_take 50 = .ok (.imul, 1) := by decide +kernel
theorem dX2_take_51 : decode cX2_take 51 = .ok (.iconst 4, 1) := by decide +kernel
theorem dX2_take_52 : decode cX2_take 52 = .ok (.iadd, 1) := by decide +kernel
theorem dX2_take_53 : decode cX2_take 53 = .ok (.iaload, 1) := by decide +kernel
theorem dX2_take_54 : decode cX2_take 54 = .ok (.istore 4, 2) := by decide +kernel
theorem dX2_take_56 : decode cX2_take 56 = .ok (.aload_n 0, 1) := by decide +kernel
theorem dX2_take_57 : decode cX2_take 57 = .ok (.getfield 44, 3) := by decide +kernel
theorem dX2_take_60 : decode cX2_take 60 = .ok (.bipush 7, 2) := by decide +kernel
theorem dX2_take_62 : decode cX2_take 62 = .ok (.iload_n 3, 1) := by decide +kernel
theorem dX2_take_63 : decode cX2_take 63 = .ok (.imul, 1) := by decide +kernel
theorem dX2_take_64 : decode cX2_take 64 = .ok (.iconst 1, 1) := by decide +kernel
theorem dX2_take_65 : decode cX2_take 65 = .ok (.iadd, 1) := by decide +kernel
theorem dX2_take_66 : decode cX2_take 66 = .ok (.dup2, 1) := by decide +kernel
theorem dX2_take_67 : decode cX2_take 67 = .ok (.iaload, 1) := by decide +kernel
theorem dX2_take_68 : decode cX2_take 68 = .ok (.iload 4, 2) := by decide +kernel
theorem dX2_take_70 : decode cX2_take 70 = .ok (.isub, 1) := by decide +kernel
theorem dX2_take_71 : decode cX2_take 71 = .ok (.iastore, 1) := by decide +kernel
theorem dX2_take_72 : decode cX2_take 72 = .ok (.aload_n 0, 1) := by decide +kernel
theorem dX2_take_73 : decode cX2_take 73 = .ok (.getfield 44, 3) := by decide +kernel
theorem dX2_take_76 : decode cX2_take 76 = .ok (.bipush 7, 2) := by decide +kernel
theorem dX2_take_78 : decode cX2_take 78 = .ok (.iload_n 3, 1) := by decide +kernel
theorem dX2_take_79 : decode cX2_take 79 = .ok (.imul, 1) := by decide +kernel
theorem dX2_take_80 : decode cX2_take 80 = .ok (.iconst 2, 1) := by decide +kernel
theorem dX2_take_81 : decode cX2_take 81 = .ok (.iadd, 1) := by decide +kernel
theorem dX2_take_82 : decode cX2_take 82 = .ok (.dup2, 1) := by decide +kernel
theorem dX2_take_83 : decode cX2_take 83 = .ok (.iaload, 1) := by decide +kernel
theorem dX2_take_84 : decode cX2_take 84 = .ok (.iload 4, 2) := by decide +kernel
theorem dX2_take_86 : decode cX2_take 86 = .ok (.iadd, 1) := by decide +kernel
theorem dX2_take_87 : decode cX2_take 87 = .ok (.iastore, 1) := by decide +kernel
theorem dX2_take_88 : decode cX2_take 88 = .ok (.aload_n 0, 1) := by decide +kernel
theorem dX2_take_89 : decode cX2_take 89 = .ok (.getfield 35, 3) := by decide +kernel
theorem dX2_take_92 : decode cX2_take 92 = .ok (.iload_n 2, 1) := by decide +kernel
theorem dX2_take_93 : decode cX2_take 93 = .ok (.iaload, 1) := by decide +kernel
theorem dX2_take_94 : decode cX2_take 94 = .ok (.aload_n 0, 1) := by decide +kernel
theorem dX2_take_95 : decode cX2_take 95 = .ok (.getfield 41, 3) := by decide +kernel
theorem dX2_take_98 : decode cX2_take 98 = .ok (.bipush 8, 2) := by decide +kernel
theorem dX2_take_100 : decode cX2_take 100 = .ok (.iload_n 1, 1) := by decide +kernel
theorem dX2_take_101 : decode cX2_take 101 = .ok (.imul, 1) := by decide +kernel
theorem dX2_take_102 : decode cX2_take 102 = .ok (.bipush 7, 2) := by decide +kernel
theorem dX2_take_104 : decode cX2_take 104 = .ok (.iadd, 1) := by decide +kernel
theorem dX2_take_105 : decode cX2_take 105 = .ok (.iaload, 1) := by decide +kernel
theorem dX2_take_106 : decode cX2_take 106 = .ok (.if_icmp .ne 10, 3) := by decide +kernel
theorem dX2_take_109 : decode cX2_take 109 = .ok (.aload_n 0, 1) := by decide +kernel
theorem dX2_take_110 : decode cX2_take 110 = .ok (.getfield 35, 3) := by decide +kernel
theorem dX2_take_113 : decode cX2_take 113 = .ok (.iload_n 2, 1) := by decide +kernel
theorem dX2_take_114 : decode cX2_take 114 = .ok (.iconst 0, 1) := by decide +kernel
theorem dX2_take_115 : decode cX2_take 115 = .ok (.iastore, 1) := by decide +kernel
theorem dX2_take_116 : decode cX2_take 116 = .ok (.bipush 8, 2) := by decide +kernel
theorem dX2_take_118 : decode cX2_take 118 = .ok (.iload_n 1, 1) := by decide +kernel
theorem dX2_take_119 : decode cX2_take 119 = .ok (.imul, 1) := by decide +kernel
theorem dX2_take_120 : decode cX2_take 120 = .ok (.istore 5, 2) := by decide +kernel
theorem dX2_take_122 : decode cX2_take 122 = .ok (.iload 5, 2) := by decide +kernel
theorem dX2_take_124 : decode cX2_take 124 = .ok (.bipush 8, 2) := by decide +kernel
theorem dX2_take_126 : decode cX2_take 126 = .ok (.aload_n 0, 1) := by decide +kernel
theorem dX2_take_127 : decode cX2_take 127 = .ok (.getfield 82, 3) := by decide +kernel
theorem dX2_take_130 : decode cX2_take 130 = .ok (.imul, 1) := by decide +kernel
theorem dX2_take_131 : decode cX2_take 131 = .ok (.bipush 8, 2) := by decide +kernel
theorem dX2_take_133 : decode cX2_take 133 = .ok (.isub, 1) := by decide +kernel
theorem dX2_take_134 : decode cX2_take 134 = .ok (.if_icmp .ge 26, 3) := by decide +kernel
theorem dX2_take_137 : decode cX2_take 137 = .ok (.aload_n 0, 1) := by decide +kernel
theorem dX2_take_138 : decode cX2_take 138 = .ok (.getfield 41, 3) := by decide +kernel
theorem dX2_take_141 : decode cX2_take 141 = .ok (.iload 5, 2) := by decide +kernel
theorem dX2_take_143 : decode cX2_take 143 = .ok (.aload_n 0, 1) := by decide +kernel
theorem dX2_take_144 : decode cX2_take 144 = .ok (.getfield 41, 3) := by decide +kernel
theorem dX2_take_147 : decode cX2_take 147 = .ok (.iload 5, 2) := by decide +kernel
theorem dX2_take_149 : decode cX2_take 149 = .ok (.bipush 8, 2) := by decide +kernel
theorem dX2_take_151 : decode cX2_take 151 = .ok (.iadd, 1) := by decide +kernel
theorem dX2_take_152 : decode cX2_take 152 = .ok (.iaload, 1) := by decide +kernel
theorem dX2_take_153 : decode cX2_take 153 = .ok (.iastore, 1) := by decide +kernel
theorem dX2_take_154 : decode cX2_take 154 = .ok (.iinc 5 1, 3) := by decide +kernel
theorem dX2_take_157 : decode cX2_take 157 = .ok (.goto (-35), 3) := by decide +kernel
theorem dX2_take_160 : decode cX2_take 160 = .ok (.aload_n 0, 1) := by decide +kernel
theorem dX2_take_161 : decode cX2_take 161 = .ok (.dup, 1) := by decide +kernel
theorem dX2_take_162 : decode cX2_take 162 = .ok (.getfield 82, 3) := by decide +kernel
theorem dX2_take_165 : decode cX2_take 165 = .ok (.iconst 1, 1) := by decide +kernel
theorem dX2_take_166 : decode cX2_take 166 = .ok (.isub, 1) := by decide +kernel
theorem dX2_take_167 : decode cX2_take 167 = .ok (.putfield 82, 3) := by decide +kernel
end
section
theorem dX2_take_170 : decode cX2_take 170 = .ok (.iload_n 2, 1) := by decide +kernel
theorem dX2_take_171 : decode cX2_take 171 = .ok (.ireturn, 1) := by decide +kernel
theorem dX2_shape_0 : decode cX2_shape 0 = .ok (.aload_n 0, 1) := by decide +kernel
theorem dX2_shape_1 : decode cX2_shape 1 = .ok (.iconst 0, 1) := by decide +kernel
theorem dX2_shape_2 : decode cX2_shape 2 = .ok (.putfield 53, 3) := by decide +kernel
theorem dX2_shape_5 : decode cX2_shape 5 = .ok (.iload_n 1, 1) := by decide +kernel
theorem dX2_shape_6 : decode cX2_shape 6 = .ok (.iconst 0, 1) := by decide +kernel
theorem dX2_shape_7 : decode cX2_shape 7 = .ok (.iconst 4, 1) := by decide +kernel
theorem dX2_shape_8 : decode cX2_shape 8 = .ok (.invokestatic 57, 3) := by decide +kernel
theorem dX2_shape_11 : decode cX2_shape 11 = .ok (.ifCond .eq 27, 3) := by decide +kernel
theorem dX2_shape_14 : decode cX2_shape 14 = .ok (.iload_n 2, 1) := by decide +kernel
theorem dX2_shape_15 : decode cX2_shape 15 = .ok (.iconst 0, 1) := by decide +kernel
theorem dX2_shape_16 : decode cX2_shape 16 = .ok (.bipush 6, 2) := by decide +kernel
theorem dX2_shape_18 : decode cX2_shape 18 = .ok (.invokestatic 57, 3) := by decide +kernel
theorem dX2_shape_21 : decode cX2_shape 21 = .ok (.ifCond .eq 17, 3) := by decide +kernel
theorem dX2_shape_24 : decode cX2_shape 24 = .ok (.aload_n 0, 1) := by decide +kernel
theorem dX2_shape_25 : decode cX2_shape 25 = .ok (.getfield 44, 3) := by decide +kernel
theorem dX2_shape_28 : decode cX2_shape 28 = .ok (.bipush 7, 2) := by decide +kernel
theorem dX2_shape_30 : decode cX2_shape 30 = .ok (.iload_n 1, 1) := by decide +kernel
theorem dX2_shape_31 : decode cX2_shape 31 = .ok (.imul, 1) := by decide +kernel
theorem dX2_shape_32 : decode cX2_shape 32 = .ok (.iload_n 2, 1) := by decide +kernel
theorem dX2_shape_33 : decode cX2_shape 33 = .ok (.iadd, 1) := by decide +kernel
theorem dX2_shape_34 : decode cX2_shape 34 = .ok (.iaload, 1) := by decide +kernel
theorem dX2_shape_35 : decode cX2_shape 35 = .ok (.goto 4, 3) := by decide +kernel
theorem dX2_shape_38 : decode cX2_shape 38 = .ok (.iconst (-1), 1) := by decide +kernel
theorem dX2_shape_39 : decode cX2_shape 39 = .ok (.ireturn, 1) := by decide +kernel
theorem dX2_step_0 : decode cX2_step 0 = .ok (.aload_n 0, 1) := by decide +kernel
theorem dX2_step_1 : decode cX2_step 1 = .ok (.iconst 0, 1) := by decide +kernel
theorem dX2_step_2 : decode cX2_step 2 = .ok (.putfield 53, 3) := by decide +kernel
theorem dX2_step_5 : decode cX2_step 5 = .ok (.iload_n 1, 1) := by decide +kernel
theorem dX2_step_6 : decode cX2_step 6 = .ok (.iconst 0, 1) := by decide +kernel
theorem dX2_step_7 : decode cX2_step 7 = .ok (.bipush 13, 2) := by decide +kernel
theorem dX2_step_9 : decode cX2_step 9 = .ok (.invokestatic 57, 3) := by decide +kernel
theorem dX2_step_12 : decode cX2_step 12 = .ok (.ifCond .eq 12, 3) := by decide +kernel
theorem dX2_step_15 : decode cX2_step 15 = .ok (.aload_n 0, 1) := by decide +kernel
theorem dX2_step_16 : decode cX2_step 16 = .ok (.getfield 47, 3) := by decide +kernel
theorem dX2_step_19 : decode cX2_step 19 = .ok (.iload_n 1, 1) := by decide +kernel
theorem dX2_step_20 : decode cX2_step 20 = .ok (.iaload, 1) := by decide +kernel
theorem dX2_step_21 : decode cX2_step 21 = .ok (.goto 4, 3) := by decide +kernel
theorem dX2_step_24 : decode cX2_step 24 = .ok (.iconst (-1), 1) := by decide +kernel
theorem dX2_step_25 : decode cX2_step 25 = .ok (.ireturn, 1) := by decide +kernel
theorem dX2_bound_0 : decode cX2_bound 0 = .ok (.aload_n 0, 1) := by decide +kernel
theorem dX2_bound_1 : decode cX2_bound 1 = .ok (.iconst 0, 1) := by decide +kernel
theorem dX2_bound_2 : decode cX2_bound 2 = .ok (.putfield 53, 3) := by decide +kernel
theorem dX2_bound_5 : decode cX2_bound 5 = .ok (.iload_n 2, 1) := by decide +kernel
theorem dX2_bound_6 : decode cX2_bound 6 = .ok (.iconst 1, 1) := by decide +kernel
theorem dX2_bound_7 : decode cX2_bound 7 = .ok (.sipush 1000, 3) := by decide +kernel
theorem dX2_bound_10 : decode cX2_bound 10 = .ok (.invokestatic 57, 3) := by decide +kernel
theorem dX2_bound_13 : decode cX2_bound 13 = .ok (.ifCond .eq 21, 3) := by decide +kernel
theorem dX2_bound_16 : decode cX2_bound 16 = .ok (.iload_n 1, 1) := by decide +kernel
theorem dX2_bound_17 : decode cX2_bound 17 = .ok (.iconst 0, 1) := by decide +kernel
theorem dX2_bound_18 : decode cX2_bound 18 = .ok (.iload_n 2, 1) := by decide +kernel
theorem dX2_bound_19 : decode cX2_bound 19 = .ok (.invokestatic 57, 3) := by decide +kernel
theorem dX2_bound_22 : decode cX2_bound 22 = .ok (.ifCond .eq 12, 3) := by decide +kernel
theorem dX2_bound_25 : decode cX2_bound 25 = .ok (.iload_n 3, 1) := by decide +kernel
theorem dX2_bound_26 : decode cX2_bound 26 = .ok (.iconst 0, 1) := by decide +kernel
theorem dX2_bound_27 : decode cX2_bound 27 = .ok (.iconst 1, 1) := by decide +kernel
theorem dX2_bound_28 : decode cX2_bound 28 = .ok (.invokestatic 57, 3) := by decide +kernel
theorem dX2_bound_31 : decode cX2_bound 31 = .ok (.ifCond .ne 5, 3) := by decide +kernel
theorem dX2_bound_34 : decode cX2_bound 34 = .ok (.iconst (-1), 1) := by decide +kernel
theorem dX2_bound_35 : decode cX2_bound 35 = .ok (.ireturn, 1) := by decide +kernel
theorem dX2_bound_36 : decode cX2_bound 36 = .ok (.aload_n 0, 1) := by decide +kernel
theorem dX2_bound_37 : decode cX2_bound 37 = .ok (.getfield 50, 3) := by decide +kernel
theorem dX2_bound_40 : decode cX2_bound 40 = .ok (.bipush 10, 2) := by decide +kernel
theorem dX2_bound_42 : decode cX2_bound 42 = .ok (.iaload, 1) := by decide +kernel
theorem dX2_bound_43 : decode cX2_bound 43 = .ok (.ifCond .ne 6, 3) := by decide +kernel
theorem dX2_bound_46 : decode cX2_bound 46 = .ok (.bipush (-9), 2) := by decide +kernel
theorem dX2_bound_48 : decode cX2_bound 48 = .ok (.ireturn, 1) := by decide +kernel
theorem dX2_bound_49 : decode cX2_bound 49 = .ok (.iconst 0, 1) := by decide +kernel
theorem dX2_bound_50 : decode cX2_bound 50 = .ok (.istore 4, 2) := by decide +kernel
theorem dX2_bound_52 : decode cX2_bound 52 = .ok (.aload_n 0, 1) := by decide +kernel
theorem dX2_bound_53 : decode cX2_bound 53 = .ok (.getfield 47, 3) := by decide +kernel
theorem dX2_bound_56 : decode cX2_bound 56 = .ok (.iconst 0, 1) := by decide +kernel
theorem dX2_bound_57 : decode cX2_bound 57 = .ok (.iaload, 1) := by decide +kernel
theorem dX2_bound_58 : decode cX2_bound 58 = .ok (.i2l, 1) := by decide +kernel
theorem dX2_bound_59 : decode cX2_bound 59 = .ok (.lstore 5, 2) := by decide +kernel
theorem dX2_bound_61 : decode cX2_bound 61 = .ok (.lload 5, 2) := by decide +kernel
theorem dX2_bound_63 : decode cX2_bound 63 = .ok (.iload_n 2, 1) := by decide +kernel
theorem dX2_bound_64 : decode cX2_bound 64 = .ok (.i2l, 1) := by decide +kernel
theorem dX2_bound_65 : decode cX2_bound 65 = .ok (.lmul, 1) := by decide +kernel
theorem dX2_bound_66 : decode cX2_bound 66 = .ok (.iload_n 1, 1) := by decide +kernel
theorem dX2_bound_67 : decode cX2_bound 67 = .ok (.i2l, 1) := by decide +kernel
theorem dX2_bound_68 : decode cX2_bound 68 = .ok (.aload_n 0, 1) := by decide +kernel
theorem dX2_bound_69 : decode cX2_bound 69 = .ok (.getfield 50, 3) := by decide +kernel
theorem dX2_bound_72 : decode cX2_bound 72 = .ok (.bipush 10, 2) := by decide +kernel
theorem dX2_bound_74 : decode cX2_bound 74 = .ok (.iaload, 1) := by decide +kernel
theorem dX2_bound_75 : decode cX2_bound 75 = .ok (.i2l, 1) := by decide +kernel
theorem dX2_bound_76 : decode cX2_bound 76 = .ok (.lmul, 1) := by decide +kernel
theorem dX2_bound_77 : decode cX2_bound 77 = .ok (.lcmp, 1) := by decide +kernel
theorem dX2_bound_78 : decode cX2_bound 78 = .ok (.ifCond .ge 22, 3) := by decide +kernel
theorem dX2_bound_81 : decode cX2_bound 81 = .ok (.iinc 4 1, 3) := by decide +kernel
theorem dX2_bound_84 : decode cX2_bound 84 = .ok (.lload 5, 2) := by decide +kernel
theorem dX2_bound_86 : decode cX2_bound 86 = .ok (.aload_n 0, 1) := by decide +kernel
theorem dX2_bound_87 : decode cX2_bound 87 = .ok (.getfield 47, 3) := by decide +kernel
theorem dX2_bound_90 : decode cX2_bound 90 = .ok (.iload 4, 2) := by decide +kernel
theorem dX2_bound_92 : decode cX2_bound 92 = .ok (.iaload, 1) := by decide +kernel
theorem dX2_bound_93 : decode cX2_bound 93 = .ok (.i2l, 1) := by decide +kernel
theorem dX2_bound_94 : decode cX2_bound 94 = .ok (.ladd, 1) := by decide +kernel
theorem dX2_bound_95 : decode cX2_bound 95 = .ok (.lstore 5, 2) := by decide +kernel
theorem dX2_bound_97 : decode cX2_bound 97 = .ok (.goto (-36), 3) := by decide +kernel
theorem dX2_bound_100 : decode cX2_bound 100 = .ok (.iload_n 3, 1) := by decide +kernel
theorem dX2_bound_101 : decode cX2_bound 101 = .ok (.iconst 1, 1) := by decide +kernel
theorem dX2_bound_102 : decode cX2_bound 102 = .ok (.if_icmp .ne 10, 3) := by decide +kernel
theorem dX2_bound_105 : decode cX2_bound 105 = .ok (.iconst 1, 1) := by decide +kernel
theorem dX2_bound_106 : decode cX2_bound 106 = .ok (.iload 4, 2) := by decide +kernel
theorem dX2_bound_108 : decode cX2_bound 108 = .ok (.ishl, 1) := by decide +kernel
theorem dX2_bound_109 : decode cX2_bound 109 = .ok (.goto 18, 3) := by decide +kernel
theorem dX2_bound_112 : decode cX2_bound 112 = .ok (.iload 4, 2) := by decide +kernel
theorem dX2_bound_114 : decode cX2_bound 114 = .ok (.ifCond .ne 7, 3) := by decide +kernel
theorem dX2_bound_117 : decode cX2_bound 117 = .ok (.iconst 0, 1) := by decide +kernel
theorem dX2_bound_118 : decode cX2_bound 118 = .ok (.goto 9, 3) := by decide +kernel
theorem dX2_bound_121 : decode cX2_bound 121 = .ok (.iconst 1, 1) := by decide +kernel
theorem dX2_bound_122 : decode cX2_bound 122 = .ok (.iload 4, 2) := by decide +kernel
theorem dX2_bound_124 : decode cX2_bound 124 = .ok (.iconst 1, 1) := by decide +kernel
theorem dX2_bound_125 : decode cX2_bound 125 = .ok (.isub, 1) := by decide +kernel
theorem dX2_bound_126 : decode cX2_bound 126 = .ok (.ishl, 1) := by decide +kernel
theorem dX2_bound_127 : decode cX2_bound 127 = .ok (.ireturn, 1) := by decide +kernel
theorem dX2_count_0 : decode cX2_count 0 = .ok (.aload_n 0, 1) := by decide +kernel
theorem dX2_count_1 : decode cX2_count 1 = .ok (.iconst 0, 1) := by decide +kernel
theorem dX2_count_2 : decode cX2_count 2 = .ok (.putfield 53, 3) := by decide +kernel
theorem dX2_count_5 : decode cX2_count 5 = .ok (.iload_n 1, 1) := by decide +kernel
theorem dX2_count_6 : decode cX2_count 6 = .ok (.iconst 0, 1) := by decide +kernel
theorem dX2_count_7 : decode cX2_count 7 = .ok (.bipush 12, 2) := by decide +kernel
theorem dX2_count_9 : decode cX2_count 9 = .ok (.invokestatic 57, 3) := by decide +kernel
theorem dX2_count_12 : decode cX2_count 12 = .ok (.ifCond .ne 5, 3) := by decide +kernel
theorem dX2_count_15 : decode cX2_count 15 = .ok (.iconst (-1), 1) := by decide +kernel
theorem dX2_count_16 : decode cX2_count 16 = .ok (.ireturn, 1) := by decide +kernel
theorem dX2_count_17 : decode cX2_count 17 = .ok (.iconst 0, 1) := by decide +kernel
theorem dX2_count_18 : decode cX2_count 18 = .ok (.istore_n 2, 1) := by decide +kernel
theorem dX2_count_19 : decode cX2_count 19 = .ok (.iconst 0, 1) := by decide +kernel
theorem dX2_count_20 : decode cX2_count 20 = .ok (.istore_n 3, 1) := by decide +kernel
theorem dX2_count_21 : decode cX2_count 21 = .ok (.iload_n 3, 1) := by decide +kernel
theorem dX2_count_22 : decode cX2_count 22 = .ok (.iconst 4, 1) := by decide +kernel
theorem dX2_count_23 : decode cX2_count 23 = .ok (.if_icmp .ge 26, 3) := by decide +kernel
theorem dX2_count_26 : decode cX2_count 26 = .ok (.iload_n 2, 1) := by decide +kernel
theorem dX2_count_27 : decode cX2_count 27 = .ok (.aload_n 0, 1) := by decide +kernel
theorem dX2_count_28 : decode cX2_count 28 = .ok (.getfield 7, 3) := by decide +kernel
theorem dX2_count_31 : decode cX2_count 31 = .ok (.iload_n 3, 1) := by decide +kernel
theorem dX2_count_32 : decode cX2_count 32 = .ok (.baload, 1) := by decide +kernel
theorem dX2_count_33 : decode cX2_count 33 = .ok (.ifCond .eq 7, 3) := by decide +kernel
theorem dX2_count_36 : decode cX2_count 36 = .ok (.iconst 0, 1) := by decide +kernel
theorem dX2_count_37 : decode cX2_count 37 = .ok (.goto 4, 3) := by decide +kernel
theorem dX2_count_40 : decode cX2_count 40 = .ok (.iconst 1, 1) := by decide +kernel
theorem dX2_count_41 : decode cX2_count 41 = .ok (.iadd, 1) := by decide +kernel
theorem dX2_count_42 : decode cX2_count 42 = .ok (.istore_n 2, 1) := by decide +kernel
theorem dX2_count_43 : decode cX2_count 43 = .ok (.iinc 3 1, 3) := by decide +kernel
theorem dX2_count_46 : decode cX2_count 46 = .ok (.goto (-25), 3) := by decide +kernel
theorem dX2_count_49 : decode cX2_count 49 = .ok (.iload_n 1, 1) := by decide +kernel
theorem dX2_count_50 : decode cX2_count 50 = .ok (.ifCond .ne 10, 3) := by decide +kernel
theorem dX2_count_53 : decode cX2_count 53 = .ok (.aload_n 0, 1) := by decide +kernel
theorem dX2_count_54 : decode cX2_count 54 = .ok (.getfield 79, 3) := by decide +kernel
theorem dX2_count_57 : decode cX2_count 57 = .ok (.goto 43, 3) := by decide +kernel
theorem dX2_count_60 : decode cX2_count 60 = .ok (.iload_n 1, 1) := by decide +kernel
theorem dX2_count_61 : decode cX2_count 61 = .ok (.iconst 1, 1) := by decide +kernel
theorem dX2_count_62 : decode cX2_count 62 = .ok (.if_icmp .ne 10, 3) := by decide +kernel
theorem dX2_count_65 : decode cX2_count 65 = .ok (.aload_n 0, 1) := by decide +kernel
theorem dX2_count_66 : decode cX2_count 66 = .ok (.invokevirtual 100, 3) := by decide +kernel
theorem dX2_count_69 : decode cX2_count 69 = .ok (.goto 31, 3) := by decide +kernel
theorem dX2_count_72 : decode cX2_count 72 = .ok (.iload_n 1, 1) := by decide +kernel
theorem dX2_count_73 : decode cX2_count 73 = .ok (.iconst 2, 1) := by decide +kernel
theorem dX2_count_74 : decode cX2_count 74 = .ok (.if_icmp .ne 10, 3) := by decide +kernel
theorem dX2_count_77 : decode cX2_count 77 = .ok (.aload_n 0, 1) := by decide +kernel
theorem dX2_count_78 : decode cX2_count 78 = .ok (.getfield 82, 3) := by decide +kernel
theorem dX2_count_81 : decode cX2_count 81 = .ok (.goto 19, 3) := by decide +kernel
theorem dX2_count_84 : decode cX2_count 84 = .ok (.iload_n 1, 1) := by decide +kernel
theorem dX2_count_85 : decode cX2_count 85 = .ok (.bipush 12, 2) := by decide +kernel
theorem dX2_count_87 : decode cX2_count 87 = .ok (.if_icmp .ne 7, 3) := by decide +kernel
theorem dX2_count_90 : decode cX2_count 90 = .ok (.iload_n 2, 1) := by decide +kernel
theorem dX2_count_91 : decode cX2_count 91 = .ok (.goto 9, 3) := by decide +kernel
theorem dX2_count_94 : decode cX2_count 94 = .ok (.aload_n 0, 1) := by decide +kernel
theorem dX2_count_95 : decode cX2_count 95 = .ok (.getfield 50, 3) := by decide +kernel
theorem dX2_count_98 : decode cX2_count 98 = .ok (.iload_n 1, 1) := by decide +kernel
theorem dX2_count_99 : decode cX2_count 99 = .ok (.iaload, 1) := by decide +kernel
theorem dX2_count_100 : decode cX2_count 100 = .ok (.ireturn, 1) := by decide +kernel
theorem dX2_trace_0 : decode cX2_trace 0 = .ok (.aload_n 0, 1) := by decide +kernel
theorem dX2_trace_1 : decode cX2_trace 1 = .ok (.iconst 0, 1) := by decide +kernel
theorem dX2_trace_2 : decode cX2_trace 2 = .ok (.putfield 53, 3) := by decide +kernel
theorem dX2_trace_5 : decode cX2_trace 5 = .ok (.aload_n 0, 1) := by decide +kernel
theorem dX2_trace_6 : decode cX2_trace 6 = .ok (.getfield 65, 3) := by decide +kernel
theorem dX2_trace_9 : decode cX2_trace 9 = .ok (.lreturn, 1) := by decide +kernel
theorem dL_law_0 : decode cL_law 0 = .ok (.new 7, 3) := by decide +kernel
theorem dL_law_3 : decode cL_law 3 = .ok (.dup, 1) := by decide +kernel
theorem dL_law_4 : decode cL_law 4 = .ok (.invokespecial 9, 3) := by decide +kernel
theorem dL_law_7 : decode cL_law 7 = .ok (.astore_n 1, 1) := by decide +kernel
theorem dL_law_8 : decode cL_law 8 = .ok (.new 10, 3) := by decide +kernel
theorem dL_law_11 : decode cL_law 11 = .ok (.dup, 1) := by decide +kernel
theorem dL_law_12 : decode cL_law 12 = .ok (.invokespecial 12, 3) := by decide +kernel
theorem dL_law_15 : decode cL_law 15 = .ok (.astore_n 2, 1) := by decide +kernel
theorem dL_law_16 : decode cL_law 16 = .ok (.iconst 0, 1) := by decide +kernel
theorem dL_law_17 : decode cL_law 17 = .ok (.istore_n 3, 1) := by decide +kernel
theorem dL_law_18 : decode cL_law 18 = .ok (.iload_n 3, 1) := by decide +kernel
theorem dL_law_19 : decode cL_law 19 = .ok (.aload_n 0, 1) := by decide +kernel
theorem dL_law_20 : decode cL_law 20 = .ok (.arraylength, 1) := by decide +kernel
theorem dL_law_21 : decode cL_law 21 = .ok (.bipush 6, 2) := by decide +kernel
theorem dL_law_23 : decode cL_law 23 = .ok (.isub, 1) := by decide +kernel
theorem dL_law_24 : decode cL_law 24 = .ok (.if_icmp .gt 541, 3) := by decide +kernel
theorem dL_law_27 : decode cL_law 27 = .ok (.aload_n 0, 1) := by decide +kernel
theorem dL_law_28 : decode cL_law 28 = .ok (.iload_n 3, 1) := by decide +kernel
theorem dL_law_29 : decode cL_law 29 = .ok (.iaload, 1) := by decide +kernel
theorem dL_law_30 : decode cL_law 30 = .ok (.bipush 15, 2) := by decide +kernel
theorem dL_law_32 : decode cL_law 32 = .ok (.iand, 1) := by decide +kernel
theorem dL_law_33 : decode cL_law 33 = .ok (.tableswitch 526 0 13 #[71, 120, 143, 176, 255, 278, 311, 334, 367, 390, 423, 446, 489, 512], 71) := by decide +kernel
theorem dL_law_104 : decode cL_law 104 = .ok (.aload_n 1, 1) := by decide +kernel
theorem dL_law_105 : decode cL_law 105 = .ok (.aload_n 0, 1) := by decide +kernel
theorem dL_law_106 : decode cL_law 106 = .ok (.iload_n 3, 1) := by decide +kernel
theorem dL_law_107 : decode cL_law 107 = .ok (.iconst 1, 1) := by decide +kernel
theorem dL_law_108 : decode cL_law 108 = .ok (.iadd, 1) := by decide +kernel
theorem dL_law_109 : decode cL_law 109 = .ok (.iaload, 1) := by decide +kernel
theorem dL_law_110 : decode cL_law 110 = .ok (.aload_n 0, 1) := by decide +kernel
theorem dL_law_111 : decode cL_law 111 = .ok (.iload_n 3, 1) := by decide +kernel
theorem dL_law_112 : decode cL_law 112 = .ok (.iconst 2, 1) := by decide +kernel
theorem dL_law_113 : decode cL_law 113 = .ok (.iadd, 1) := by decide +kernel
theorem dL_law_114 : decode cL_law 114 = .ok (.iaload, 1) := by decide +kernel
theorem dL_law_115 : decode cL_law 115 = .ok (.ifCond .eq 7, 3) := by decide +kernel
theorem dL_law_118 : decode cL_law 118 = .ok (.iconst 1, 1) := by decide +kernel
theorem dL_law_119 : decode cL_law 119 = .ok (.goto 4, 3) := by decide +kernel
theorem dL_law_122 : decode cL_law 122 = .ok (.iconst 0, 1) := by decide +kernel
theorem dL_law_123 : decode cL_law 123 = .ok (.invokevirtual 13, 3) := by decide +kernel
theorem dL_law_126 : decode cL_law 126 = .ok (.aload_n 2, 1) := by decide +kernel
theorem dL_law_127 : decode cL_law 127 = .ok (.aload_n 0, 1) := by decide +kernel
theorem dL_law_128 : decode cL_law 128 = .ok (.iload_n 3, 1) := by decide +kernel
theorem dL_law_129 : decode cL_law 129 = .ok (.iconst 1, 1) := by decide +kernel
theorem dL_law_130 : decode cL_law 130 = .ok (.iadd, 1) := by decide +kernel
theorem dL_law_131 : decode cL_law 131 = .ok (.iaload, 1) := by decide +kernel
theorem dL_law_132 : decode cL_law 132 = .ok (.aload_n 0, 1) := by decide +kernel
theorem dL_law_133 : decode cL_law 133 = .ok (.iload_n 3, 1) := by decide +kernel
theorem dL_law_134 : decode cL_law 134 = .ok (.iconst 2, 1) := by decide +kernel
theorem dL_law_135 : decode cL_law 135 = .ok (.iadd, 1) := by decide +kernel
theorem dL_law_136 : decode cL_law 136 = .ok (.iaload, 1) := by decide +kernel
theorem dL_law_137 : decode cL_law 137 = .ok (.ifCond .eq 7, 3) := by decide +kernel
theorem dL_law_140 : decode cL_law 140 = .ok (.iconst 1, 1) := by decide +kernel
theorem dL_law_141 : decode cL_law 141 = .ok (.goto 4, 3) := by decide +kernel
theorem dL_law_144 : decode cL_law 144 = .ok (.iconst 0, 1) := by decide +kernel
theorem dL_law_145 : decode cL_law 145 = .ok (.invokevirtual 17, 3) := by decide +kernel
theorem dL_law_148 : decode cL_law 148 = .ok (.if_icmp .eq 411, 3) := by decide +kernel
theorem dL_law_151 : decode cL_law 151 = .ok (.iconst 0, 1) := by decide +kernel
theorem dL_law_152 : decode cL_law 152 = .ok (.ireturn, 1) := by decide +kernel
theorem dL_law_153 : decode cL_law 153 = .ok (.aload_n 1, 1) := by decide +kernel
theorem dL_law_154 : decode cL_law 154 = .ok (.aload_n 0, 1) := by decide +kernel
theorem dL_law_155 : decode cL_law 155 = .ok (.iload_n 3, 1) := by decide +kernel
theorem dL_law_156 : decode cL_law 156 = .ok (.iconst 1, 1) := by decide +kernel
theorem dL_law_157 : decode cL_law 157 = .ok (.iadd, 1) := by decide +kernel
theorem dL_law_158 : decode cL_law 158 = .ok (.iaload, 1) := by decide +kernel
theorem dL_law_159 : decode cL_law 159 = .ok (.invokevirtual 18, 3) := by decide +kernel
theorem dL_law_162 : decode cL_law 162 = .ok (.aload_n 2, 1) := by decide +kernel
theorem dL_law_163 : decode cL_law 163 = .ok (.aload_n 0, 1) := by decide +kernel
theorem dL_law_164 : decode cL_law 164 = .ok (.iload_n 3, 1) := by decide +kernel
theorem dL_law_165 : decode cL_law 165 = .ok (.iconst 1, 1) := by decide +kernel
theorem dL_law_166 : decode cL_law 166 = .ok (.iadd, 1) := by decide +kernel
theorem dL_law_167 : decode cL_law 167 = .ok (.iaload, 1) := by decide +kernel
theorem dL_law_168 : decode cL_law 168 = .ok (.invokevirtual 22, 3) := by decide +kernel
theorem dL_law_171 : decode cL_law 171 = .ok (.if_icmp .eq 388, 3) := by decide +kernel
theorem dL_law_174 : decode cL_law 174 = .ok (.iconst 0, 1) := by decide +kernel
theorem dL_law_175 : decode cL_law 175 = .ok (.ireturn, 1) := by decide +kernel
theorem dL_law_176 : decode cL_law 176 = .ok (.aload_n 1, 1) := by decide +kernel
theorem dL_law_177 : decode cL_law 177 = .ok (.aload_n 0, 1) := by decide +kernel
theorem dL_law_178 : decode cL_law 178 = .ok (.iload_n 3, 1) := by decide +kernel
theorem dL_law_179 : decode cL_law 179 = .ok (.iconst 1, 1) := by decide +kernel
theorem dL_law_180 : decode cL_law 180 = .ok (.iadd, 1) := by decide +kernel
theorem dL_law_181 : decode cL_law 181 = .ok (.iaload, 1) := by decide +kernel
theorem dL_law_182 : decode cL_law 182 = .ok (.aload_n 0, 1) := by decide +kernel
theorem dL_law_183 : decode cL_law 183 = .ok (.iload_n 3, 1) := by decide +kernel
theorem dL_law_184 : decode cL_law 184 = .ok (.iconst 2, 1) := by decide +kernel
theorem dL_law_185 : decode cL_law 185 = .ok (.iadd, 1) := by decide +kernel
theorem dL_law_186 : decode cL_law 186 = .ok (.iaload, 1) := by decide +kernel
theorem dL_law_187 : decode cL_law 187 = .ok (.invokevirtual 23, 3) := by decide +kernel
theorem dL_law_190 : decode cL_law 190 = .ok (.aload_n 2, 1) := by decide +kernel
theorem dL_law_191 : decode cL_law 191 = .ok (.aload_n 0, 1) := by decide +kernel
theorem dL_law_192 : decode cL_law 192 = .ok (.iload_n 3, 1) := by decide +kernel
theorem dL_law_193 : decode cL_law 193 = .ok (.iconst 1, 1) := by decide +kernel
theorem dL_law_194 : decode cL_law 194 = .ok (.iadd, 1) := by decide +kernel
theorem dL_law_195 : decode cL_law 195 = .ok (.iaload, 1) := by decide +kernel
theorem dL_law_196 : decode cL_law 196 = .ok (.aload_n 0, 1) := by decide +kernel
theorem dL_law_197 : decode cL_law 197 = .ok (.iload_n 3, 1) := by decide +kernel
theorem dL_law_198 : decode cL_law 198 = .ok (.iconst 2, 1) := by decide +kernel
theorem dL_law_199 : decode cL_law 199 = .ok (.iadd, 1) := by decide +kernel
theorem dL_law_200 : decode cL_law 200 = .ok (.iaload, 1) := by decide +kernel
theorem dL_law_201 : decode cL_law 201 = .ok (.invokevirtual 27, 3) := by decide +kernel
theorem dL_law_204 : decode cL_law 204 = .ok (.if_icmp .eq 355, 3) := by decide +kernel
theorem dL_law_207 : decode cL_law 207 = .ok (.iconst 0, 1) := by decide +kernel
theorem dL_law_208 : decode cL_law 208 = .ok (.ireturn, 1) := by decide +kernel
theorem dL_law_209 : decode cL_law 209 = .ok (.aload_n 1, 1) := by decide +kernel
theorem dL_law_210 : decode cL_law 210 = .ok (.aload_n 0, 1) := by decide +kernel
theorem dL_law_211 : decode cL_law 211 = .ok (.iload_n 3, 1) := by decide +kernel
theorem dL_law_212 : decode cL_law 212 = .ok (.iconst 1, 1) := by decide +kernel
theorem dL_law_213 : decode cL_law 213 = .ok (.iadd, 1) := by decide +kernel
theorem dL_law_214 : decode cL_law 214 = .ok (.iaload, 1) := by decide +kernel
theorem dL_law_215 : decode cL_law 215 = .ok (.aload_n 0, 1) := by decide +kernel
theorem dL_law_216 : decode cL_law 216 = .ok (.iload_n 3, 1) := by decide +kernel
theorem dL_law_217 : decode cL_law 217 = .ok (.iconst 2, 1) := by decide +kernel
theorem dL_law_218 : decode cL_law 218 = .ok (.iadd, 1) := by decide +kernel
theorem dL_law_219 : decode cL_law 219 = .ok (.iaload, 1) := by decide +kernel
theorem dL_law_220 : decode cL_law 220 = .ok (.aload_n 0, 1) := by decide +kernel
theorem dL_law_221 : decode cL_law 221 = .ok (.iload_n 3, 1) := by decide +kernel
theorem dL_law_222 : decode cL_law 222 = .ok (.iconst 3, 1) := by decide +kernel
theorem dL_law_223 : decode cL_law 223 = .ok (.iadd, 1) := by decide +kernel
theorem dL_law_224 : decode cL_law 224 = .ok (.iaload, 1) := by decide +kernel
theorem dL_law_225 : decode cL_law 225 = .ok (.ifCond .eq 7, 3) := by decide +kernel
theorem dL_law_228 : decode cL_law 228 = .ok (.iconst 1, 1) := by decide +kernel
theorem dL_law_229 : decode cL_law 229 = .ok (.goto 4, 3) := by decide +kernel
theorem dL_law_232 : decode cL_law 232 = .ok (.iconst 0, 1) := by decide +kernel
theorem dL_law_233 : decode cL_law 233 = .ok (.aload_n 0, 1) := by decide +kernel
theorem dL_law_234 : decode cL_law 234 = .ok (.iload_n 3, 1) := by decide +kernel
theorem dL_law_235 : decode cL_law 235 = .ok (.iconst 4, 1) := by decide +kernel
theorem dL_law_236 : decode cL_law 236 = .ok (.iadd, 1) := by decide +kernel
theorem dL_law_237 : decode cL_law 237 = .ok (.iaload, 1) := by decide +kernel
theorem dL_law_238 : decode cL_law 238 = .ok (.aload_n 0, 1) := by decide +kernel
theorem dL_law_239 : decode cL_law 239 = .ok (.iload_n 3, 1) := by decide +kernel
theorem dL_law_240 : decode cL_law 240 = .ok (.iconst 5, 1) := by decide +kernel
theorem dL_law_241 : decode cL_law 241 = .ok (.iadd, 1) := by decide +kernel
theorem dL_law_242 : decode cL_law 242 = .ok (.iaload, 1) := by decide +kernel
theorem dL_law_243 : decode cL_law 243 = .ok (.invokevirtual 28, 3) := by decide +kernel
theorem dL_law_246 : decode cL_law 246 = .ok (.aload_n 2, 1) := by decide +kernel
theorem dL_law_247 : decode cL_law 247 = .ok (.aload_n 0, 1) := by decide +kernel
theorem dL_law_248 : decode cL_law 248 = .ok (.iload_n 3, 1) := by decide +kernel
theorem dL_law_249 : decode cL_law 249 = .ok (.iconst 1, 1) := by decide +kernel
theorem dL_law_250 : decode cL_law 250 = .ok (.iadd, 1) := by decide +kernel
theorem dL_law_251 : decode cL_law 251 = .ok (.iaload, 1) := by decide +kernel
theorem dL_law_252 : decode cL_law 252 = .ok (.aload_n 0, 1) := by decide +kernel
theorem dL_law_253 : decode cL_law 253 = .ok (.iload_n 3, 1) := by decide +kernel
theorem dL_law_254 : decode cL_law 254 = .ok (.iconst 2, 1) := by decide +kernel
theorem dL_law_255 : decode cL_law 255 = .ok (.iadd, 1) := by decide +kernel
theorem dL_law_256 : decode cL_law 256 = .ok (.iaload, 1) := by decide +kernel
theorem dL_law_257 : decode cL_law 257 = .ok (.aload_n 0, 1) := by decide +kernel
theorem dL_law_258 : decode cL_law 258 = .ok (.iload_n 3, 1) := by decide +kernel
theorem dL_law_259 : decode cL_law 259 = .ok (.iconst 3, 1) := by decide +kernel
theorem dL_law_260 : decode cL_law 260 = .ok (.iadd, 1) := by decide +kernel
theorem dL_law_261 : decode cL_law 261 = .ok (.iaload, 1) := by decide +kernel
theorem dL_law_262 : decode cL_law 262 = .ok (.ifCond .eq 7, 3) := by decide +kernel
theorem dL_law_265 : decode cL_law 265 = .ok (.iconst 1, 1) := by decide +kernel
theorem dL_law_266 : decode cL_law 266 = .ok (.goto 4, 3) := by decide +kernel
theorem dL_law_269 : decode cL_law 269 = .ok (.iconst 0, 1) := by decide +kernel
theorem dL_law_270 : decode cL_law 270 = .ok (.aload_n 0, 1) := by decide +kernel
theorem dL_law_271 : decode cL_law 271 = .ok (.iload_n 3, 1) := by decide +kernel
theorem dL_law_272 : decode cL_law 272 = .ok (.iconst 4, 1) := by decide +kernel
theorem dL_law_273 : decode cL_law 273 = .ok (.iadd, 1) := by decide +kernel
theorem dL_law_274 : decode cL_law 274 = .ok (.iaload, 1) := by decide +kernel
theorem dL_law_275 : decode cL_law 275 = .ok (.aload_n 0, 1) := by decide +kernel
theorem dL_law_276 : decode cL_law 276 = .ok (.iload_n 3, 1) := by decide +kernel
theorem dL_law_277 : decode cL_law 277 = .ok (.iconst 5, 1) := by decide +kernel
theorem dL_law_278 : decode cL_law 278 = .ok (.iadd, 1) := by decide +kernel
theorem dL_law_279 : decode cL_law 279 = .ok (.iaload, 1) := by decide +kernel
theorem dL_law_280 : decode cL_law 280 = .ok (.invokevirtual 32, 3) := by decide +kernel
theorem dL_law_283 : decode cL_law 283 = .ok (.if_icmp .eq 276, 3) := by decide +kernel
theorem dL_law_286 : decode cL_law 286 = .ok (.iconst 0, 1) := by decide +kernel
theorem dL_law_287 : decode cL_law 287 = .ok (.ireturn, 1) := by decide +kernel
theorem dL_law_288 : decode cL_law 288 = .ok (.aload_n 1, 1) := by decide +kernel
theorem dL_law_289 : decode cL_law 289 = .ok (.aload_n 0, 1) := by decide +kernel
theorem dL_law_290 : decode cL_law 290 = .ok (.iload_n 3, 1) := by decide +kernel
theorem dL_law_291 : decode cL_law 291 = .ok (.iconst 1, 1) := by decide +kernel
theorem dL_law_292 : decode cL_law 292 = .ok (.iadd, 1) := by decide +kernel
theorem dL_law_293 : decode cL_law 293 = .ok (.iaload, 1) := by decide +kernel
theorem dL_law_294 : decode cL_law 294 = .ok (.invokevirtual 33, 3) := by decide +kernel
theorem dL_law_297 : decode cL_law 297 = .ok (.aload_n 2, 1) := by decide +kernel
theorem dL_law_298 : decode cL_law 298 = .ok (.aload_n 0, 1) := by decide +kernel
theorem dL_law_299 : decode cL_law 299 = .ok (.iload_n 3, 1) := by decide +kernel
theorem dL_law_300 : decode cL_law 300 = .ok (.iconst 1, 1) := by decide +kernel
theorem dL_law_301 : decode cL_law 301 = .ok (.iadd, 1) := by decide +kernel
theorem dL_law_302 : decode cL_law 302 = .ok (.iaload, 1) := by decide +kernel
theorem dL_law_303 : decode cL_law 303 = .ok (.invokevirtual 36, 3) := by decide +kernel
theorem dL_law_306 : decode cL_law 306 = .ok (.if_icmp .eq 253, 3) := by decide +kernel
theorem dL_law_309 : decode cL_law 309 = .ok (.iconst 0, 1) := by decide +kernel
theorem dL_law_310 : decode cL_law 310 = .ok (.ireturn, 1) := by decide +kernel
theorem dL_law_311 : decode cL_law 311 = .ok (.aload_n 1, 1) := by decide +kernel
theorem dL_law_312 : decode cL_law 312 = .ok (.aload_n 0, 1) := by decide +kernel
theorem dL_law_313 : decode cL_law 313 = .ok (.iload_n 3, 1) := by decide +kernel
theorem dL_law_314 : decode cL_law 314 = .ok (.iconst 1, 1) := by decide +kernel
theorem dL_law_315 : decode cL_law 315 = .ok (.iadd, 1) := by decide +kernel
theorem dL_law_316 : decode cL_law 316 = .ok (.iaload, 1) := by decide +kernel
theorem dL_law_317 : decode cL_law 317 = .ok (.aload_n 0, 1) := by decide +kernel
theorem dL_law_318 : decode cL_law 318 = .ok (.iload_n 3, 1) := by decide +kernel
theorem dL_law_319 : decode cL_law 319 = .ok (.iconst 2, 1) := by decide +kernel
theorem dL_law_320 : decode cL_law 320 = .ok (.iadd, 1) := by decide +kernel
theorem dL_law_321 : decode cL_law 321 = .ok (.iaload, 1) := by decide +kernel
theorem dL_law_322 : decode cL_law 322 = .ok (.invokevirtual 37, 3) := by decide +kernel
theorem dL_law_325 : decode cL_law 325 = .ok (.aload_n 2, 1) := by decide +kernel
theorem dL_law_326 : decode cL_law 326 = .ok (.aload_n 0, 1) := by decide +kernel
theorem dL_law_327 : decode cL_law 327 = .ok (.iload_n 3, 1) := by decide +kernel
theorem dL_law_328 : decode cL_law 328 = .ok (.iconst 1, 1) := by decide +kernel
theorem dL_law_329 : decode cL_law 329 = .ok (.iadd, 1) := by decide +kernel
theorem dL_law_330 : decode cL_law 330 = .ok (.iaload, 1) := by decide +kernel
theorem dL_law_331 : decode cL_law 331 = .ok (.aload_n 0, 1) := by decide +kernel
theorem dL_law_332 : decode cL_law 332 = .ok (.iload_n 3, 1) := by decide +kernel
theorem dL_law_333 : decode cL_law 333 = .ok (.iconst 2, 1) := by decide +kernel
theorem dL_law_334 : decode cL_law 334 = .ok (.iadd, 1) := by decide +kernel
theorem dL_law_335 : decode cL_law 335 = .ok (.iaload, 1) := by decide +kernel
theorem dL_law_336 : decode cL_law 336 = .ok (.invokevirtual 40, 3) := by decide +kernel
theorem dL_law_339 : decode cL_law 339 = .ok (.if_icmp .eq 220, 3) := by decide +kernel
theorem dL_law_342 : decode cL_law 342 = .ok (.iconst 0, 1) := by decide +kernel
theorem dL_law_343 : decode cL_law 343 = .ok (.ireturn, 1) := by decide +kernel
theorem dL_law_344 : decode cL_law 344 = .ok (.aload_n 1, 1) := by decide +kernel
theorem dL_law_345 : decode cL_law 345 = .ok (.aload_n 0, 1) := by decide +kernel
theorem dL_law_346 : decode cL_law 346 = .ok (.iload_n 3, 1) := by decide +kernel
theorem dL_law_347 : decode cL_law 347 = .ok (.iconst 1, 1) := by decide +kernel
theorem dL_law_348 : decode cL_law 348 = .ok (.iadd, 1) := by decide +kernel
theorem dL_law_349 : decode cL_law 349 = .ok (.iaload, 1) := by decide +kernel
theorem dL_law_350 : decode cL_law 350 = .ok (.invokevirtual 41, 3) := by decide +kernel
theorem dL_law_353 : decode cL_law 353 = .ok (.aload_n 2, 1) := by decide +kernel
theorem dL_law_354 : decode cL_law 354 = .ok (.aload_n 0, 1) := by decide +kernel
theorem dL_law_355 : decode cL_law 355 = .ok (.iload_n 3, 1) := by decide +kernel
theorem dL_law_356 : decode cL_law 356 = .ok (.iconst 1, 1) := by decide +kernel
theorem dL_law_357 : decode cL_law 357 = .ok (.iadd, 1) := by decide +kernel
theorem dL_law_358 : decode cL_law 358 = .ok (.iaload, 1) := by decide +kernel
theorem dL_law_359 : decode cL_law 359 = .ok (.invokevirtual 44, 3) := by decide +kernel
theorem dL_law_362 : decode cL_law 362 = .ok (.if_icmp .eq 197, 3) := by decide +kernel
theorem dL_law_365 : decode cL_law 365 = .ok (.iconst 0, 1) := by decide +kernel
theorem dL_law_366 : decode cL_law 366 = .ok (.ireturn, 1) := by decide +kernel
theorem dL_law_367 : decode cL_law 367 = .ok (.aload_n 1, 1) := by decide +kernel
theorem dL_law_368 : decode cL_law 368 = .ok (.aload_n 0, 1) := by decide +kernel
theorem dL_law_369 : decode cL_law 369 = .ok (.iload_n 3, 1) := by decide +kernel
theorem dL_law_370 : decode cL_law 370 = .ok (.iconst 1, 1) := by decide +kernel
theorem dL_law_371 : decode cL_law 371 = .ok (.iadd, 1) := by decide +kernel
theorem dL_law_372 : decode cL_law 372 = .ok (.iaload, 1) := by decide +kernel
theorem dL_law_373 : decode cL_law 373 = .ok (.aload_n 0, 1) := by decide +kernel
theorem dL_law_374 : decode cL_law 374 = .ok (.iload_n 3, 1) := by decide +kernel
theorem dL_law_375 : decode cL_law 375 = .ok (.iconst 2, 1) := by decide +kernel
theorem dL_law_376 : decode cL_law 376 = .ok (.iadd, 1) := by decide +kernel
theorem dL_law_377 : decode cL_law 377 = .ok (.iaload, 1) := by decide +kernel
theorem dL_law_378 : decode cL_law 378 = .ok (.invokevirtual 45, 3) := by decide +kernel
theorem dL_law_381 : decode cL_law 381 = .ok (.aload_n 2, 1) := by decide +kernel
theorem dL_law_382 : decode cL_law 382 = .ok (.aload_n 0, 1) := by decide +kernel
theorem dL_law_383 : decode cL_law 383 = .ok (.iload_n 3, 1) := by decide +kernel
theorem dL_law_384 : decode cL_law 384 = .ok (.iconst 1, 1) := by decide +kernel
theorem dL_law_385 : decode cL_law 385 = .ok (.iadd, 1) := by decide +kernel
theorem dL_law_386 : decode cL_law 386 = .ok (.iaload, 1) := by decide +kernel
theorem dL_law_387 : decode cL_law 387 = .ok (.aload_n 0, 1) := by decide +kernel
theorem dL_law_388 : decode cL_law 388 = .ok (.iload_n 3, 1) := by decide +kernel
theorem dL_law_389 : decode cL_law 389 = .ok (.iconst 2, 1) := by decide +kernel
theorem dL_law_390 : decode cL_law 390 = .ok (.iadd, 1) := by decide +kernel
theorem dL_law_391 : decode cL_law 391 = .ok (.iaload, 1) := by decide +kernel
end
section
theorem dL_law_392 : decode cL_law 392 = .ok (.invokevirtual 48, 3) := by decide +kernel
theorem dL_law_395 : decode cL_law 395 = .ok (.if_icmp .eq 164, 3) := by decide +kernel
theorem dL_law_398 : decode cL_law 398 = .ok (.iconst 0, 1) := by decide +kernel
theorem dL_law_399 : decode cL_law 399 = .ok (.ireturn, 1) := by decide +kernel
theorem dL_law_400 : decode cL_law 400 = .ok (.aload_n 1, 1) := by decide +kernel
theorem dL_law_401 : decode cL_law 401 = .ok (.aload_n 0, 1) := by decide +kernel
theorem dL_law_402 : decode cL_law 402 = .ok (.iload_n 3, 1) := by decide +kernel
theorem dL_law_403 : decode cL_law 403 = .ok (.iconst 1, 1) := by decide +kernel
theorem dL_law_404 : decode cL_law 404 = .ok (.iadd, 1) := by decide +kernel
theorem dL_law_405 : decode cL_law 405 = .ok (.iaload, 1) := by decide +kernel
theorem dL_law_406 : decode cL_law 406 = .ok (.invokevirtual 49, 3) := by decide +kernel
theorem dL_law_409 : decode cL_law 409 = .ok (.aload_n 2, 1) := by decide +kernel
theorem dL_law_410 : decode cL_law 410 = .ok (.aload_n 0, 1) := by decide +kernel
theorem dL_law_411 : decode cL_law 411 = .ok (.iload_n 3, 1) := by decide +kernel
theorem dL_law_412 : decode cL_law 412 = .ok (.iconst 1, 1) := by decide +kernel
theorem dL_law_413 : decode cL_law 413 = .ok (.iadd, 1) := by decide +kernel
theorem dL_law_414 : decode cL_law 414 = .ok (.iaload, 1) := by decide +kernel
theorem dL_law_415 : decode cL_law 415 = .ok (.invokevirtual 52, 3) := by decide +kernel
theorem dL_law_418 : decode cL_law 418 = .ok (.if_icmp .eq 141, 3) := by decide +kernel
theorem dL_law_421 : decode cL_law 421 = .ok (.iconst 0, 1) := by decide +kernel
theorem dL_law_422 : decode cL_law 422 = .ok (.ireturn, 1) := by decide +kernel
theorem dL_law_423 : decode cL_law 423 = .ok (.aload_n 1, 1) := by decide +kernel
theorem dL_law_424 : decode cL_law 424 = .ok (.aload_n 0, 1) := by decide +kernel
theorem dL_law_425 : decode cL_law 425 = .ok (.iload_n 3, 1) := by decide +kernel
theorem dL_law_426 : decode cL_law 426 = .ok (.iconst 1, 1) := by decide +kernel
theorem dL_law_427 : decode cL_law 427 = .ok (.iadd, 1) := by decide +kernel
theorem dL_law_428 : decode cL_law 428 = .ok (.iaload, 1) := by decide +kernel
theorem dL_law_429 : decode cL_law 429 = .ok (.aload_n 0, 1) := by decide +kernel
theorem dL_law_430 : decode cL_law 430 = .ok (.iload_n 3, 1) := by decide +kernel
theorem dL_law_431 : decode cL_law 431 = .ok (.iconst 2, 1) := by decide +kernel
theorem dL_law_432 : decode cL_law 432 = .ok (.iadd, 1) := by decide +kernel
theorem dL_law_433 : decode cL_law 433 = .ok (.iaload, 1) := by decide +kernel
theorem dL_law_434 : decode cL_law 434 = .ok (.invokevirtual 53, 3) := by decide +kernel
theorem dL_law_437 : decode cL_law 437 = .ok (.aload_n 2, 1) := by decide +kernel
theorem dL_law_438 : decode cL_law 438 = .ok (.aload_n 0, 1) := by decide +kernel
theorem dL_law_439 : decode cL_law 439 = .ok (.iload_n 3, 1) := by decide +kernel
theorem dL_law_440 : decode cL_law 440 = .ok (.iconst 1, 1) := by decide +kernel
theorem dL_law_441 : decode cL_law 441 = .ok (.iadd, 1) := by decide +kernel
theorem dL_law_442 : decode cL_law 442 = .ok (.iaload, 1) := by decide +kernel
theorem dL_law_443 : decode cL_law 443 = .ok (.aload_n 0, 1) := by decide +kernel
theorem dL_law_444 : decode cL_law 444 = .ok (.iload_n 3, 1) := by decide +kernel
theorem dL_law_445 : decode cL_law 445 = .ok (.iconst 2, 1) := by decide +kernel
theorem dL_law_446 : decode cL_law 446 = .ok (.iadd, 1) := by decide +kernel
theorem dL_law_447 : decode cL_law 447 = .ok (.iaload, 1) := by decide +kernel
theorem dL_law_448 : decode cL_law 448 = .ok (.invokevirtual 56, 3) := by decide +kernel
theorem dL_law_451 : decode cL_law 451 = .ok (.if_icmp .eq 108, 3) := by decide +kernel
theorem dL_law_454 : decode cL_law 454 = .ok (.iconst 0, 1) := by decide +kernel
theorem dL_law_455 : decode cL_law 455 = .ok (.ireturn, 1) := by decide +kernel
theorem dL_law_456 : decode cL_law 456 = .ok (.aload_n 1, 1) := by decide +kernel
theorem dL_law_457 : decode cL_law 457 = .ok (.aload_n 0, 1) := by decide +kernel
theorem dL_law_458 : decode cL_law 458 = .ok (.iload_n 3, 1) := by decide +kernel
theorem dL_law_459 : decode cL_law 459 = .ok (.iconst 1, 1) := by decide +kernel
theorem dL_law_460 : decode cL_law 460 = .ok (.iadd, 1) := by decide +kernel
theorem dL_law_461 : decode cL_law 461 = .ok (.iaload, 1) := by decide +kernel
theorem dL_law_462 : decode cL_law 462 = .ok (.invokevirtual 57, 3) := by decide +kernel
theorem dL_law_465 : decode cL_law 465 = .ok (.aload_n 2, 1) := by decide +kernel
theorem dL_law_466 : decode cL_law 466 = .ok (.aload_n 0, 1) := by decide +kernel
theorem dL_law_467 : decode cL_law 467 = .ok (.iload_n 3, 1) := by decide +kernel
theorem dL_law_468 : decode cL_law 468 = .ok (.iconst 1, 1) := by decide +kernel
theorem dL_law_469 : decode cL_law 469 = .ok (.iadd, 1) := by decide +kernel
theorem dL_law_470 : decode cL_law 470 = .ok (.iaload, 1) := by decide +kernel
theorem dL_law_471 : decode cL_law 471 = .ok (.invokevirtual 60, 3) := by decide +kernel
theorem dL_law_474 : decode cL_law 474 = .ok (.if_icmp .eq 85, 3) := by decide +kernel
theorem dL_law_477 : decode cL_law 477 = .ok (.iconst 0, 1) := by decide +kernel
theorem dL_law_478 : decode cL_law 478 = .ok (.ireturn, 1) := by decide +kernel
theorem dL_law_479 : decode cL_law 479 = .ok (.aload_n 1, 1) := by decide +kernel
theorem dL_law_480 : decode cL_law 480 = .ok (.aload_n 0, 1) := by decide +kernel
theorem dL_law_481 : decode cL_law 481 = .ok (.iload_n 3, 1) := by decide +kernel
theorem dL_law_482 : decode cL_law 482 = .ok (.iconst 1, 1) := by decide +kernel
theorem dL_law_483 : decode cL_law 483 = .ok (.iadd, 1) := by decide +kernel
theorem dL_law_484 : decode cL_law 484 = .ok (.iaload, 1) := by decide +kernel
theorem dL_law_485 : decode cL_law 485 = .ok (.aload_n 0, 1) := by decide +kernel
theorem dL_law_486 : decode cL_law 486 = .ok (.iload_n 3, 1) := by decide +kernel
theorem dL_law_487 : decode cL_law 487 = .ok (.iconst 2, 1) := by decide +kernel
theorem dL_law_488 : decode cL_law 488 = .ok (.iadd, 1) := by decide +kernel
theorem dL_law_489 : decode cL_law 489 = .ok (.iaload, 1) := by decide +kernel
theorem dL_law_490 : decode cL_law 490 = .ok (.aload_n 0, 1) := by decide +kernel
theorem dL_law_491 : decode cL_law 491 = .ok (.iload_n 3, 1) := by decide +kernel
theorem dL_law_492 : decode cL_law 492 = .ok (.iconst 3, 1) := by decide +kernel
theorem dL_law_493 : decode cL_law 493 = .ok (.iadd, 1) := by decide +kernel
theorem dL_law_494 : decode cL_law 494 = .ok (.iaload, 1) := by decide +kernel
theorem dL_law_495 : decode cL_law 495 = .ok (.invokevirtual 61, 3) := by decide +kernel
theorem dL_law_498 : decode cL_law 498 = .ok (.aload_n 2, 1) := by decide +kernel
theorem dL_law_499 : decode cL_law 499 = .ok (.aload_n 0, 1) := by decide +kernel
theorem dL_law_500 : decode cL_law 500 = .ok (.iload_n 3, 1) := by decide +kernel
theorem dL_law_501 : decode cL_law 501 = .ok (.iconst 1, 1) := by decide +kernel
theorem dL_law_502 : decode cL_law 502 = .ok (.iadd, 1) := by decide +kernel
theorem dL_law_503 : decode cL_law 503 = .ok (.iaload, 1) := by decide +kernel
theorem dL_law_504 : decode cL_law 504 = .ok (.aload_n 0, 1) := by decide +kernel
theorem dL_law_505 : decode cL_law 505 = .ok (.iload_n 3, 1) := by decide +kernel
theorem dL_law_506 : decode cL_law 506 = .ok (.iconst 2, 1) := by decide +kernel
theorem dL_law_507 : decode cL_law 507 = .ok (.iadd, 1) := by decide +kernel
theorem dL_law_508 : decode cL_law 508 = .ok (.iaload, 1) := by decide +kernel
theorem dL_law_509 : decode cL_law 509 = .ok (.aload_n 0, 1) := by decide +kernel
theorem dL_law_510 : decode cL_law 510 = .ok (.iload_n 3, 1) := by decide +kernel
theorem dL_law_511 : decode cL_law 511 = .ok (.iconst 3, 1) := by decide +kernel
theorem dL_law_512 : decode cL_law 512 = .ok (.iadd, 1) := by decide +kernel
theorem dL_law_513 : decode cL_law 513 = .ok (.iaload, 1) := by decide +kernel
theorem dL_law_514 : decode cL_law 514 = .ok (.invokevirtual 65, 3) := by decide +kernel
theorem dL_law_517 : decode cL_law 517 = .ok (.if_icmp .eq 42, 3) := by decide +kernel
theorem dL_law_520 : decode cL_law 520 = .ok (.iconst 0, 1) := by decide +kernel
theorem dL_law_521 : decode cL_law 521 = .ok (.ireturn, 1) := by decide +kernel
theorem dL_law_522 : decode cL_law 522 = .ok (.aload_n 1, 1) := by decide +kernel
theorem dL_law_523 : decode cL_law 523 = .ok (.aload_n 0, 1) := by decide +kernel
theorem dL_law_524 : decode cL_law 524 = .ok (.iload_n 3, 1) := by decide +kernel
theorem dL_law_525 : decode cL_law 525 = .ok (.iconst 1, 1) := by decide +kernel
theorem dL_law_526 : decode cL_law 526 = .ok (.iadd, 1) := by decide +kernel
theorem dL_law_527 : decode cL_law 527 = .ok (.iaload, 1) := by decide +kernel
theorem dL_law_528 : decode cL_law 528 = .ok (.invokevirtual 66, 3) := by decide +kernel
theorem dL_law_531 : decode cL_law 531 = .ok (.aload_n 2, 1) := by decide +kernel
theorem dL_law_532 : decode cL_law 532 = .ok (.aload_n 0, 1) := by decide +kernel
theorem dL_law_533 : decode cL_law 533 = .ok (.iload_n 3, 1) := by decide +kernel
theorem dL_law_534 : decode cL_law 534 = .ok (.iconst 1, 1) := by decide +kernel
theorem dL_law_535 : decode cL_law 535 = .ok (.iadd, 1) := by decide +kernel
theorem dL_law_536 : decode cL_law 536 = .ok (.iaload, 1) := by decide +kernel
theorem dL_law_537 : decode cL_law 537 = .ok (.invokevirtual 69, 3) := by decide +kernel
theorem dL_law_540 : decode cL_law 540 = .ok (.if_icmp .eq 19, 3) := by decide +kernel
theorem dL_law_543 : decode cL_law 543 = .ok (.iconst 0, 1) := by decide +kernel
theorem dL_law_544 : decode cL_law 544 = .ok (.ireturn, 1) := by decide +kernel
theorem dL_law_545 : decode cL_law 545 = .ok (.aload_n 1, 1) := by decide +kernel
theorem dL_law_546 : decode cL_law 546 = .ok (.invokevirtual 70, 3) := by decide +kernel
theorem dL_law_549 : decode cL_law 549 = .ok (.aload_n 2, 1) := by decide +kernel
theorem dL_law_550 : decode cL_law 550 = .ok (.invokevirtual 74, 3) := by decide +kernel
theorem dL_law_553 : decode cL_law 553 = .ok (.lcmp, 1) := by decide +kernel
theorem dL_law_554 : decode cL_law 554 = .ok (.ifCond .eq 5, 3) := by decide +kernel
theorem dL_law_557 : decode cL_law 557 = .ok (.iconst 0, 1) := by decide +kernel
theorem dL_law_558 : decode cL_law 558 = .ok (.ireturn, 1) := by decide +kernel
theorem dL_law_559 : decode cL_law 559 = .ok (.iinc 3 6, 3) := by decide +kernel
theorem dL_law_562 : decode cL_law 562 = .ok (.goto (-544), 3) := by decide +kernel
theorem dL_law_565 : decode cL_law 565 = .ok (.iconst 1, 1) := by decide +kernel
theorem dL_law_566 : decode cL_law 566 = .ok (.ireturn, 1) := by decide +kernel
end
section
/-! the layer: one list of words for all methods, one form of contract, calls that pass the whole world -/
theorem bg_good : wsL_law.all goodWord = true := by decide +kernel
theorem bg_in {c0 : Cond} : GoodIn (c0 :: wsL_law) wsL_law := goodIn_sub (fun _ h => List.mem_cons_of_mem _ h) bg_good
theorem bg_one {w : Cond} {c0 : Cond} (h : w ∈ wsL_law) : w ∈ c0 :: wsL_law ∧ ((w.onTables && w.keeps) = true ∨ ∃ ty, w = .arrayClass ty) := bg_in (c0 := c0) w h
theorem bg_self {w : Cond} (h : w ∈ wsL_law) : w ∈ wsL_law ∧ ((w.onTables && w.keeps) = true ∨ ∃ ty, w = .arrayClass ty) := ⟨h, good_of_word (List.all_eq_true.mp bg_good w h)⟩
abbrev cls3 : List vw_C := [(RX0, TX0, 12), (RX1, TX1, 9), (RX2, TX2, 18)]
def kI {S : Type} (D : va_G) (wo : S → va_W) (A : Nat → Prop) (H0 : Heap) (st : S) (H : Heap) (locs : List Loc) : Prop := va_P D cls3 (wo st) H ∧ va_D A (wo st) ∧ va_S A H0 H locs
def kQ {S : Type} (D : va_G) (tys : List (ClassId × FieldType)) (wo : S → va_W) (post : Option Value → S → Prop) (A : Nat → Prop) : Array Value → State → Outcome → State → Prop := fun _ s0 oc t => (∃ (v : Option Value) (u : S), oc = .returned v ∧ post v u ∧ va_P D cls3 (wo u) t.heap ∧ va_K D cls3 tys t ∧ va_D A (wo u)) ∧ va_F A s0 t
def kPre {S : Type} (D : va_G) (tys : List (ClassId × FieldType)) (wo : S → va_W) (st : S) (sz : Nat) (U : State) : Prop := U.heap.size = sz ∧ va_P D cls3 (wo st) U.heap ∧ va_K D cls3 tys U ∧ va_D (fun _ => True) (wo st)
/-- the contract: from a heap that holds (wo st), with the values av, y returns v and the heap holds (wo u), post v u -/
def kM {S : Type} (l : Launch) (y : MethodName) (cc : ByteArray) (n : Nat) (r : Option FieldType) (fr lo mc ms : Nat) (D : va_G) (tys : List (ClassId × FieldType)) (wo : S → va_W) (av : List Value) (st : S) (post : Option Value → S → Prop) : Prop :=
  ∀ sz : Nat, Met l y (.code y cc n r :: wsL_law) { frames := fr, cells := mc, slots := ms, locals := lo } (va_Pc av (kPre D tys wo st sz)) (kQ D tys wo post (va_A (wo st) sz)) mc ms (va_A (wo st) sz)
def kF (p : Program) (s : State) (m : MethodId) (args : Array Value) (meth : Method) (c : Code) (y : MethodName) (cc : ByteArray) (n : Nat) (r : Option FieldType) (D : va_G) (tys : List (ClassId × FieldType)) : Prop :=
  p.tables.exec = Jvm.exec ∧ c.code = cc ∧ meth.sig.returnType = r ∧ c.maxLocals = n ∧ s.vm.findClass y.cls = some m.cls ∧ (∀ w ∈ wsL_law, w.before args s = true) ∧ meth.locks = false ∧ va_K D cls3 tys s ∧ meth.name = y.name
def kG (own : String) (idx : Nat) (C : String) (y : MethodName) (cc : ByteArray) (n : Nat) (r : Option FieldType) (nP : Nat) : Prop :=
  Cond.methodLink own idx y ∈ wsL_law ∧ Cond.instanceMethod y ∈ wsL_law ∧ Cond.selects C y y ∈ wsL_law ∧ Cond.initialized C ∈ wsL_law ∧ Cond.code y cc n r ∈ wsL_law ∧ (y.cls = C ∧ y.cls ≠ "java/lang/invoke/MethodHandle" ∧ y.cls ≠ "java/lang/invoke/VarHandle" ∧ (parseMethodDescriptor y.desc).map (fun d => d.parameters.length) = some nP)
def kGS (own : String) (idx : Nat) (y : MethodName) (cc : ByteArray) (n : Nat) (r : Option FieldType) (nP : Nat) : Prop :=
  Cond.methodLink own idx y ∈ wsL_law ∧ Cond.static y ∈ wsL_law ∧ Cond.initialized y.cls ∈ wsL_law ∧ Cond.code y cc n r ∈ wsL_law ∧ (y.cls ≠ "java/lang/invoke/MethodHandle" ∧ y.cls ≠ "java/lang/invoke/VarHandle" ∧ (parseMethodDescriptor y.desc).map (fun d => d.parameters.length) = some nP)
def kGI (own : String) (idx : Nat) (y : MethodName) (cc : ByteArray) (n : Nat) (nP : Nat) : Prop :=
  Cond.methodLink own idx y ∈ wsL_law ∧ Cond.instanceMethod y ∈ wsL_law ∧ Cond.initialized y.cls ∈ wsL_law ∧ Cond.code y cc n none ∈ wsL_law ∧ y.name = "<init>" ∧ (y.cls ≠ "java/lang/invoke/MethodHandle" ∧ y.cls ≠ "java/lang/invoke/VarHandle" ∧ (parseMethodDescriptor y.desc).map (fun d => d.parameters.length) = some nP)
theorem kG_in {own C : String} {idx n nP : Nat} {y : MethodName} {cc : ByteArray} {r : Option FieldType} {c0 : Cond} (g : kG own idx C y cc n r nP) : GoodIn (c0 :: wsL_law) (wsV own idx C y (.code y cc n r :: wsL_law)) := by
  obtain ⟨h1, h2, h3, h4, h5, -⟩ := g
  intro w hw
  simp only [wsV, List.mem_append, List.mem_cons, List.not_mem_nil, or_false] at hw
  rcases hw with (rfl | rfl | rfl | rfl) | rfl | hw
  · exact bg_one h1
  · exact bg_one h2
  · exact bg_one h3
  · exact bg_one h4
  · exact bg_one h5
  · exact bg_one hw
theorem kG_inL {own C : String} {idx n nP : Nat} {y : MethodName} {cc : ByteArray} {r : Option FieldType} (g : kG own idx C y cc n r nP) : GoodIn wsL_law (wsV own idx C y (.code y cc n r :: wsL_law)) := by
  obtain ⟨h1, h2, h3, h4, h5, -⟩ := g
  intro w hw
  simp only [wsV, List.mem_append, List.mem_cons, List.not_mem_nil, or_false] at hw
  rcases hw with (rfl | rfl | rfl | rfl) | rfl | hw
  · exact bg_self h1
  · exact bg_self h2
  · exact bg_self h3
  · exact bg_self h4
  · exact bg_self h5
  · exact bg_self hw
theorem kGS_inL {own : String} {idx n nP : Nat} {y : MethodName} {cc : ByteArray} {r : Option FieldType} (g : kGS own idx y cc n r nP) : GoodIn wsL_law (va_wsS own idx y (.code y cc n r :: wsL_law)) := by
  obtain ⟨h1, h2, h3, h4, -⟩ := g
  intro w hw
  simp only [va_wsS, List.mem_append, List.mem_cons, List.not_mem_nil, or_false] at hw
  rcases hw with (rfl | rfl | rfl) | rfl | hw
  · exact bg_self h1
  · exact bg_self h2
  · exact bg_self h3
  · exact bg_self h4
  · exact bg_self hw
theorem kGI_inL {n : Nat} {y : MethodName} {cc : ByteArray} (h4 : Cond.code y cc n none ∈ wsL_law) : GoodIn wsL_law (.code y cc n none :: wsL_law) := by
  intro w hw
  rcases List.mem_cons.mp hw with rfl | hw
  · exact bg_self h4
  · exact bg_self hw
theorem kM_intro {S : Type} {l : Launch} {y : MethodName} {cc : ByteArray} {n : Nat} {r : Option FieldType} {fr lo mc ms : Nat} {D : va_G} {tys : List (ClassId × FieldType)} {wo : S → va_W} {av : List Value} {st : S} {post : Option Value → S → Prop}
    (hy : plainName y.cls = true) (hn : (lg_sl av).length ≤ n)
    (body : ∀ (p : Program) (e : Env) (s : State) (m : MethodId) (below : List Frame) (meth : Method) (c : Code) (A : Nat → Prop) (ls : Array Slot), kF p s m av.toArray meth c y cc n r D tys → (∀ q, s.heap.size ≤ q → A q) → kI D wo A s.heap st s.heap [] → lv_has ls n (lv_args 0 av) →
      W p l e { frames := fr, cells := mc, slots := ms, locals := lo } s m av.toArray below meth c s.heap [] 0 0 (MQ below (kQ D tys wo post A) av.toArray s mc ms A) (F0 m 0 ls [])) : kM l y cc n r fr lo mc ms D tys wo av st post := by
  intro sz
  refine Met.ofW (cc := cc) (maxL := n) (ret := r) hy rfl ?_
  intro p e s m args below meth c s₁ B hml hv
  obtain ⟨rfl, hsz, hP, hK, hD0⟩ := hv
  subst hsz
  have hD := hD0.self (sz := s.heap.size)
  have hts := atoms_spec (ws := .code y cc n r :: wsL_law) B.pre
  have hl := lv_entry av (n := n) hn
  rw [lg_entry_eq]
  exact body p e s m below meth c _ _ ⟨B.exec, B.bytes, B.returns, hml, findClass_of_methodNamed B.named, fun w h => hts w (List.mem_cons_of_mem _ h), B.notSynchronized, hK, (name_of_methodNamed B.named B.method).1⟩ (fun q h => Or.inr h) ⟨hP, hD, va_S.rf⟩ hl
section LAY
variable {p : Program} {l : Launch} {e : Env} {R : Room} {s : State} {m : MethodId} {args : Array Value} {below : List Frame} {meth : Method} {c : Code} {H : Heap} {locs : List Loc} {cells slots : Nat} {Q : State → Prop}
variable {cc : ByteArray} {pc : Nat} {ls : Array Slot} {rest : List Value} {D : va_G} {tys : List (ClassId × FieldType)} {A : Nat → Prop} {S : Type} {wo : S → va_W} {st : S} {post : Option Value → S → Prop} {y0 : MethodName} {n0 : Nat} {r0 : Option FieldType}
theorem kend {v : Option Value} (F : kF p s m args meth c y0 cc n0 r0 D tys) (hI : kI D wo A s.heap st H locs) (hp : post v st) : ∀ t : State, t.heap = H → s.WarmedH t.vm → kQ D tys wo post A args s (.returned v) t := by
  intro t ht hW
  obtain ⟨-, -, -, -, -, -, -, hK, -⟩ := F
  exact ⟨⟨v, st, rfl, hp, by rw [ht]; exact hI.1, va_K.moved hW.alike hK, hI.2.1⟩, hI.2.2.F ht⟩
theorem kret_i {v : Int32} (F : kF p s m args meth c y0 cc n0 (some .int) D tys) (hI : kI D wo A s.heap st H locs) (hdg : decode cc pc = .ok (.ireturn, 1)) (hp : post (some (.int v)) st) : W p l e R s m args below meth c H locs cells slots (MQ below (kQ D tys wo post A) args s cells slots A) (F0 m pc ls [.int v]) :=
  W.iret F.1 F.2.1 F.2.2.1 (kend F hI hp) hI.2.2.2.2 hdg F.2.2.2.2.2.2.1
theorem kret_z {v : Int32} (F : kF p s m args meth c y0 cc n0 (some .boolean) D tys) (hI : kI D wo A s.heap st H locs) (hdg : decode cc pc = .ok (.ireturn, 1)) (hn : narrow .boolean (.int v) = .int v) (hp : post (some (.int v)) st) : W p l e R s m args below meth c H locs cells slots (MQ below (kQ D tys wo post A) args s cells slots A) (F0 m pc ls [.int v]) :=
  W.zret F.1 F.2.1 F.2.2.1 hn (kend F hI hp) hI.2.2.2.2 hdg F.2.2.2.2.2.2.1
theorem kret_l {v : Int64} (F : kF p s m args meth c y0 cc n0 (some .long) D tys) (hI : kI D wo A s.heap st H locs) (hdg : decode cc pc = .ok (.lreturn, 1)) (hp : post (some (.long v)) st) : W p l e R s m args below meth c H locs cells slots (MQ below (kQ D tys wo post A) args s cells slots A) (F0 m pc ls [.long v]) :=
  W.lret F.1 F.2.1 F.2.2.1 (kend F hI hp) hI.2.2.2.2 hdg F.2.2.2.2.2.2.1
theorem kret_v (F : kF p s m args meth c y0 cc n0 none D tys) (hI : kI D wo A s.heap st H locs) (hdg : decode cc pc = .ok (.return_, 1)) (hp : post none st) : W p l e R s m args below meth c H locs cells slots (MQ below (kQ D tys wo post A) args s cells slots A) (F0 m pc ls []) :=
  W.vret F.1 F.2.1 F.2.2.1 (kend F hI hp) hI.2.2.2.2 hdg F.2.2.2.2.2.2.1
theorem kret_q {r : Option Nat} {C : String} (F : kF p s m args meth c y0 cc n0 (some (.object C)) D tys) (hI : kI D wo A s.heap st H locs) (hdg : decode cc pc = .ok (.areturn, 1)) (hp : post (some (va_rf r)) st) : W p l e R s m args below meth c H locs cells slots (MQ below (kQ D tys wo post A) args s cells slots A) (F0 m pc ls [va_rf r]) :=
  W.aret F.1 F.2.1 F.2.2.1 (Or.inl ⟨C, rfl⟩) (va_rf_or r) (kend F hI hp) hI.2.2.2.2 hdg F.2.2.2.2.2.2.1
theorem kblind {av : List Value} {sz : Nat} : FrameBlind (va_Pc av (kPre D tys wo st sz)) := fun a U g mk q => by
  obtain ⟨q0, q1, qP, qK, qD⟩ := q
  exact ⟨q0, q1, qP, va_K.moved (u := U) (U := U.calling g mk a) (Vm.Alike.refl U.vm) qK, qD⟩
theorem kafter {A0 A1 : Nat → Prop} {H0 : Heap} {mc ms : Nat} {free : Addr → Prop} {a : Array Value} {st0 : List Value} (hr : va_Run p l e R s m args below meth c H locs cells slots mc ms (F0 m pc ls st0) rest (kQ D tys wo post A1 a) free) (hS : va_S A0 H0 H locs) (hA : ∀ q, q < H.size → A1 q → A0 q) (hf : ∀ q, free q → A0 q)
    (kk : ∀ (v : Option Value) (u : S) (H1 : Heap) (locs1 : List Loc), post v u → va_P D cls3 (wo u) H1 → va_D A1 (wo u) → H.size ≤ H1.size → (∀ q : Nat, q < H.size → ¬ A1 q → H1[q]? = H[q]?) → va_S A0 H0 H1 locs1 → W p l e R s m args below meth c H1 locs1 (cells + mc) (slots + ms) Q (F0 m (pc + 3) ls (v.toList ++ rest))) : W p l e R s m args below meth c H locs cells slots Q (F0 m pc ls st0) := by
  intro T hT X
  obtain ⟨v, st₀, t, T', L, h0, X', hL, e1, e2, ⟨⟨v2, u, hv, hp, hb1, hb2, hb3⟩, hz, hk⟩, stp⟩ := hr T hT X
  cases hv
  rw [h0] at hz hk
  obtain ⟨t2, a1, b1⟩ := kk v u T'.heap (locs ++ L) hp (by rw [e1]; exact hb1) hb3 (by rw [e1]; exact hz) (fun q h1 h2 => by rw [e1]; exact hk q h1 h2)
    ⟨Nat.le_trans hS.1 (by rw [e1]; exact hz), fun q h1 h2 => by rw [e1, hk q (Nat.lt_of_lt_of_le h1 hS.1) (fun z => h2 (hA q (Nat.lt_of_lt_of_le h1 hS.1) z))]; exact hS.2.1 q h1 h2, fun q hq => by
      rcases List.mem_append.mp hq with h | h
      · exact hS.2.2 q h
      · exact hf _ (hL q h)⟩ T' rfl X'
  exact ⟨t2, stp t2 a1, b1⟩
theorem kfree {H0 : Heap} (hA : ∀ q, H0.size ≤ q → A q) (hI : kI D wo A H0 st H locs) : ∀ q, va_A (wo st) H.size q → A q := by
  intro q h
  rcases h with ⟨k, e, h⟩ | h
  · exact hI.2.1.2 k (q, e) h
  · exact hA q (Nat.le_trans hI.2.2.1 h)
/-- a call of a method on an object of the world: the whole world goes and comes back -/
theorem kcallV {y : MethodName} {cc' : ByteArray} {n' nP idx fr lo mc ms : Nat} {r' : Option FieldType} {C : String} {b : Nat} {As st0 : List Value} (F : kF p s m args meth c y0 cc n0 r0 D tys) (hA : ∀ q, s.heap.size ≤ q → A q) (hI : kI D wo A s.heap st H locs) (hM : kM l y cc' n' r' fr lo mc ms D tys wo (.ref b :: As) st post) (g : kG y0.cls idx C y cc' n' r' nP) (hrec : ∃ cellB : Cell, H[b]? = some cellB ∧ cellB.vm.isStatics = false ∧ s.vm.findClass C = some cellB.cls) (hl : ls.size = n0) (hn : As.length = nP) (hst : st0 = As.reverse ++ .ref b :: rest) (hw : (rest.map fun v => v.category).sum ≤ 8) (hdg : decode cc pc = .ok (.invokevirtual idx, 3)) (hR : fr + 1 ≤ R.frames ∧ 8 + (n' + 11) + lo ≤ R.locals) (hf : cells + mc ≤ R.cells ∧ slots + ms ≤ R.slots)
    (kk : ∀ (v : Option Value) (u : S) (H1 : Heap) (locs1 : List Loc), post v u → kI D wo A s.heap u H1 locs1 → W p l e R s m args below meth c H1 locs1 (cells + mc) (slots + ms) Q (F0 m (pc + 3) ls (v.toList ++ rest))) : W p l e R s m args below meth c H locs cells slots Q (F0 m pc ls st0) := by
  have hFr := kfree hA hI
  obtain ⟨hx, hb, hr, hml, hown, hts, hlk, hK, -⟩ := F
  refine kafter (va_runV (As := As) (rest := rest) ⟨hx, hb, hml, hown, hts⟩ (hM H.size) (cwV nP hts (kG_inL g) rfl rfl rfl g.2.2.2.2.2 hR) ⟨kblind, hrec, fun U hU hW => ⟨rfl, by rw [hU], by rw [hU]; exact hI.1, va_K.moved hW.alike hK, hI.2.1.weaken (fun _ _ _ _ => trivial)⟩⟩ rfl hn hl hst (lv_room (pc := pc) (m := m) (ls := ls) (rest := st0) hw) hdg hf) hI.2.2 (fun q _ h => hFr q h) hFr (fun v u H1 locs1 hp hP1 hD1 hz hk hS => ?_)
  exact kk v u H1 locs1 hp ⟨hP1, hD1.weaken (fun _ _ _ h => hFr _ h), hS⟩
theorem kcallS {y : MethodName} {cc' : ByteArray} {n' nP idx fr lo mc ms : Nat} {r' : Option FieldType} {As st0 : List Value} (F : kF p s m args meth c y0 cc n0 r0 D tys) (hA : ∀ q, s.heap.size ≤ q → A q) (hI : kI D wo A s.heap st H locs) (hM : kM l y cc' n' r' fr lo mc ms D tys wo As st post) (g : kGS y0.cls idx y cc' n' r' nP) (hl : ls.size = n0) (hn : As.length = nP) (hst : st0 = As.reverse ++ rest) (hw : (rest.map fun v => v.category).sum ≤ 8) (hdg : decode cc pc = .ok (.invokestatic idx, 3)) (hR : fr + 1 ≤ R.frames ∧ 8 + (n' + 11) + lo ≤ R.locals) (hf : cells + mc ≤ R.cells ∧ slots + ms ≤ R.slots)
    (kk : ∀ (v : Option Value) (u : S) (H1 : Heap) (locs1 : List Loc), post v u → kI D wo A s.heap u H1 locs1 → W p l e R s m args below meth c H1 locs1 (cells + mc) (slots + ms) Q (F0 m (pc + 3) ls (v.toList ++ rest))) : W p l e R s m args below meth c H locs cells slots Q (F0 m pc ls st0) := by
  have hFr := kfree hA hI
  obtain ⟨hx, hb, hr, hml, hown, hts, hlk, hK, -⟩ := F
  refine kafter (va_runS (As := As) (rest := rest) ⟨hx, hb, hml, hown, hts⟩ (hM H.size) (va_cwS nP hts (kGS_inL g) rfl rfl rfl g.2.2.2.2 hR) ⟨kblind, fun U hU hW => ⟨rfl, by rw [hU], by rw [hU]; exact hI.1, va_K.moved hW.alike hK, hI.2.1.weaken (fun _ _ _ _ => trivial)⟩⟩ rfl hn hl hst (lv_room (pc := pc) (m := m) (ls := ls) (rest := st0) hw) hdg hf) hI.2.2 (fun q _ h => hFr q h) hFr (fun v u H1 locs1 hp hP1 hD1 hz hk hS => ?_)
  exact kk v u H1 locs1 hp ⟨hP1, hD1.weaken (fun _ _ _ h => hFr _ h), hS⟩
theorem kcallI {y : MethodName} {cc' : ByteArray} {n' nP idx fr lo mc ms : Nat} {b : Nat} {As st0 : List Value} (F : kF p s m args meth c y0 cc n0 r0 D tys) (hA : ∀ q, s.heap.size ≤ q → A q) (hI : kI D wo A s.heap st H locs) (hM : kM l y cc' n' none fr lo mc ms D tys wo (.ref b :: As) st post) (g : kGI y0.cls idx y cc' n' nP) (hl : ls.size = n0) (hn : As.length = nP) (hst : st0 = As.reverse ++ .ref b :: rest) (hw : (rest.map fun v => v.category).sum ≤ 8) (hdg : decode cc pc = .ok (.invokespecial idx, 3)) (hR : fr + 1 ≤ R.frames ∧ 8 + (n' + 11) + lo ≤ R.locals) (hf : cells + mc ≤ R.cells ∧ slots + ms ≤ R.slots)
    (kk : ∀ (v : Option Value) (u : S) (H1 : Heap) (locs1 : List Loc), post v u → kI D wo A s.heap u H1 locs1 → W p l e R s m args below meth c H1 locs1 (cells + mc) (slots + ms) Q (F0 m (pc + 3) ls (v.toList ++ rest))) : W p l e R s m args below meth c H locs cells slots Q (F0 m pc ls st0) := by
  have hFr := kfree hA hI
  obtain ⟨hx, hb, hr, hml, hown, hts, hlk, hK, -⟩ := F
  refine kafter (va_runI (As := As) (rest := rest) ⟨hx, hb, hml, hown, hts⟩ (hM H.size) (cwI nP hts (kGI_inL g.2.2.2.1) rfl rfl rfl (hts _ g.2.2.1) (hts _ g.1) (hts _ g.2.1) g.2.2.2.2.1 g.2.2.2.2.2 hR) ⟨kblind, fun U hU hW => ⟨rfl, by rw [hU], by rw [hU]; exact hI.1, va_K.moved hW.alike hK, hI.2.1.weaken (fun _ _ _ _ => trivial)⟩⟩ rfl hn hl hst (lv_room (pc := pc) (m := m) (ls := ls) (rest := st0) hw) hdg hf) hI.2.2 (fun q _ h => hFr q h) hFr (fun v u H1 locs1 hp hP1 hD1 hz hk hS => ?_)
  exact kk v u H1 locs1 hp ⟨hP1, hD1.weaken (fun _ _ _ h => hFr _ h), hS⟩
/-- the top of the stack by another name -/
theorem ktop {x y : Int32} (h : x = y) (k : W p l e R s m args below meth c H locs cells slots Q (F0 m pc ls (.int y :: rest))) : W p l e R s m args below meth c H locs cells slots Q (F0 m pc ls (.int x :: rest)) := h ▸ k
theorem ktopl {x y : Int64} (h : x = y) (k : W p l e R s m args below meth c H locs cells slots Q (F0 m pc ls (.long y :: rest))) : W p l e R s m args below meth c H locs cells slots Q (F0 m pc ls (.long x :: rest)) := h ▸ k
theorem kstk {a b : List Value} (h : a = b) (k : W p l e R s m args below meth c H locs cells slots Q (F0 m pc ls b)) : W p l e R s m args below meth c H locs cells slots Q (F0 m pc ls a) := h ▸ k
end LAY
end
section
set_option maxRecDepth 100000 in
theorem flX0_9 : Cond.fieldLink RX0 9 "CallKeepers$Call" "pieces" "I" ∈ wsL_law := List.mem_of_getElem? (i := 130) rfl
set_option maxRecDepth 100000 in
theorem flX0_15 : Cond.fieldLink RX0 15 "CallKeepers$Call" "length" "I" ∈ wsL_law := List.mem_of_getElem? (i := 145) rfl
set_option maxRecDepth 100000 in
theorem flX0_18 : Cond.fieldLink RX0 18 "CallKeepers$Call" "last" "I" ∈ wsL_law := List.mem_of_getElem? (i := 135) rfl
set_option maxRecDepth 100000 in
theorem flX0_21 : Cond.fieldLink RX0 21 "CallKeepers$Call" "decidedAt" "I" ∈ wsL_law := List.mem_of_getElem? (i := 199) rfl
set_option maxRecDepth 100000 in
theorem flX0_24 : Cond.fieldLink RX0 24 "CallKeepers$Call" "weight" "I" ∈ wsL_law := List.mem_of_getElem? (i := 200) rfl
set_option maxRecDepth 100000 in
theorem flX0_27 : Cond.fieldLink RX0 27 "CallKeepers$Call" "isTorn" "Z" ∈ wsL_law := List.mem_of_getElem? (i := 201) rfl
set_option maxRecDepth 100000 in
theorem flX0_31 : Cond.fieldLink RX0 31 "CallKeepers$Call" "isKept" "Z" ∈ wsL_law := List.mem_of_getElem? (i := 202) rfl
set_option maxRecDepth 100000 in
theorem flX0_34 : Cond.fieldLink RX0 34 "CallKeepers$Call" "isTaken" "Z" ∈ wsL_law := List.mem_of_getElem? (i := 203) rfl
set_option maxRecDepth 100000 in
theorem flX0_37 : Cond.fieldLink RX0 37 "CallKeepers$Call" "number" "I" ∈ wsL_law := List.mem_of_getElem? (i := 204) rfl
set_option maxRecDepth 100000 in
theorem flX0_40 : Cond.fieldLink RX0 40 "CallKeepers$Call" "shape" "I" ∈ wsL_law := List.mem_of_getElem? (i := 205) rfl
set_option maxRecDepth 100000 in
theorem flX0_43 : Cond.fieldLink RX0 43 "CallKeepers$Call" "keeper" "I" ∈ wsL_law := List.mem_of_getElem? (i := 206) rfl
set_option maxRecDepth 100000 in
theorem flX0_46 : Cond.fieldLink RX0 46 "CallKeepers$Call" "since" "I" ∈ wsL_law := List.mem_of_getElem? (i := 207) rfl
set_option maxRecDepth 100000 in
theorem flX1_9 : Cond.fieldLink RX1 9 "CallKeepers" "isUp" "[Z" ∈ wsL_law := List.mem_of_getElem? (i := 13) rfl
set_option maxRecDepth 100000 in
theorem flX1_13 : Cond.fieldLink RX1 13 "CallKeepers" "FIRST_SETTINGS" "[I" ∈ wsL_law := List.mem_of_getElem? (i := 14) rfl
set_option maxRecDepth 100000 in
theorem flX1_22 : Cond.fieldLink RX1 22 "CallKeepers" "settings" "[I" ∈ wsL_law := List.mem_of_getElem? (i := 21) rfl
set_option maxRecDepth 100000 in
theorem flX1_25 : Cond.fieldLink RX1 25 "CallKeepers" "counts" "[I" ∈ wsL_law := List.mem_of_getElem? (i := 23) rfl
set_option maxRecDepth 100000 in
theorem flX1_30 : Cond.fieldLink RX1 30 "CallKeepers" "tallies" "[[I" ∈ wsL_law := List.mem_of_getElem? (i := 25) rfl
set_option maxRecDepth 100000 in
theorem flX1_33 : Cond.fieldLink RX1 33 "CallKeepers" "steps" "[I" ∈ wsL_law := List.mem_of_getElem? (i := 26) rfl
set_option maxRecDepth 100000 in
theorem flX1_38 : Cond.fieldLink RX1 38 "CallKeepers" "waiting" "[LCallKeepers$Call;" ∈ wsL_law := List.mem_of_getElem? (i := 28) rfl
set_option maxRecDepth 100000 in
theorem flX1_42 : Cond.fieldLink RX1 42 "CallKeepers" "decided" "[LCallKeepers$Call;" ∈ wsL_law := List.mem_of_getElem? (i := 29) rfl
set_option maxRecDepth 100000 in
theorem flX1_45 : Cond.fieldLink RX1 45 "CallKeepers" "row" "[LCallKeepers$Call;" ∈ wsL_law := List.mem_of_getElem? (i := 30) rfl
set_option maxRecDepth 100000 in
theorem flX1_48 : Cond.fieldLink RX1 48 "CallKeepers" "marks" "J" ∈ wsL_law := List.mem_of_getElem? (i := 31) rfl
set_option maxRecDepth 100000 in
theorem flX1_67 : Cond.fieldLink RX1 67 "CallKeepers" "LEAST_SETTINGS" "[I" ∈ wsL_law := List.mem_of_getElem? (i := 99) rfl
set_option maxRecDepth 100000 in
theorem flX1_70 : Cond.fieldLink RX1 70 "CallKeepers" "GREATEST_SETTINGS" "[I" ∈ wsL_law := List.mem_of_getElem? (i := 100) rfl
set_option maxRecDepth 100000 in
theorem flX1_105 : Cond.fieldLink RX1 105 "CallKeepers$Call" "keeper" "I" ∈ wsL_law := List.mem_of_getElem? (i := 61) rfl
set_option maxRecDepth 100000 in
theorem flX1_109 : Cond.fieldLink RX1 109 "CallKeepers$Call" "pieces" "I" ∈ wsL_law := List.mem_of_getElem? (i := 263) rfl
set_option maxRecDepth 100000 in
theorem flX1_112 : Cond.fieldLink RX1 112 "CallKeepers$Call" "shape" "I" ∈ wsL_law := List.mem_of_getElem? (i := 157) rfl
set_option maxRecDepth 100000 in
theorem flX1_115 : Cond.fieldLink RX1 115 "CallKeepers$Call" "length" "I" ∈ wsL_law := List.mem_of_getElem? (i := 158) rfl
set_option maxRecDepth 100000 in
theorem flX1_118 : Cond.fieldLink RX1 118 "CallKeepers$Call" "last" "I" ∈ wsL_law := List.mem_of_getElem? (i := 140) rfl
set_option maxRecDepth 100000 in
theorem flX1_121 : Cond.fieldLink RX1 121 "CallKeepers$Call" "since" "I" ∈ wsL_law := List.mem_of_getElem? (i := 254) rfl
set_option maxRecDepth 100000 in
theorem flX1_124 : Cond.fieldLink RX1 124 "CallKeepers$Call" "isKept" "Z" ∈ wsL_law := List.mem_of_getElem? (i := 185) rfl
set_option maxRecDepth 100000 in
theorem flX1_131 : Cond.fieldLink RX1 131 "CallKeepers$Call" "number" "I" ∈ wsL_law := List.mem_of_getElem? (i := 66) rfl
set_option maxRecDepth 100000 in
theorem flX1_134 : Cond.fieldLink RX1 134 "CallKeepers$Call" "weight" "I" ∈ wsL_law := List.mem_of_getElem? (i := 156) rfl
set_option maxRecDepth 100000 in
theorem flX1_137 : Cond.fieldLink RX1 137 "CallKeepers$Call" "isTorn" "Z" ∈ wsL_law := List.mem_of_getElem? (i := 154) rfl
set_option maxRecDepth 100000 in
theorem flX1_140 : Cond.fieldLink RX1 140 "CallKeepers$Call" "decidedAt" "I" ∈ wsL_law := List.mem_of_getElem? (i := 155) rfl
set_option maxRecDepth 100000 in
theorem flX1_146 : Cond.fieldLink RX1 146 "CallKeepers$Call" "isTaken" "Z" ∈ wsL_law := List.mem_of_getElem? (i := 190) rfl
set_option maxRecDepth 100000 in
theorem flX2_7 : Cond.fieldLink RX2 7 "CallKeepersModel" "isDown" "[Z" ∈ wsL_law := List.mem_of_getElem? (i := 36) rfl
set_option maxRecDepth 100000 in
theorem flX2_13 : Cond.fieldLink RX2 13 "CallKeepersModel" "rules" "[I" ∈ wsL_law := List.mem_of_getElem? (i := 37) rfl
set_option maxRecDepth 100000 in
theorem flX2_17 : Cond.fieldLink RX2 17 "CallKeepersModel" "keeperOf" "[I" ∈ wsL_law := List.mem_of_getElem? (i := 38) rfl
set_option maxRecDepth 100000 in
theorem flX2_20 : Cond.fieldLink RX2 20 "CallKeepersModel" "pieces" "[I" ∈ wsL_law := List.mem_of_getElem? (i := 39) rfl
set_option maxRecDepth 100000 in
theorem flX2_23 : Cond.fieldLink RX2 23 "CallKeepersModel" "shapeOf" "[I" ∈ wsL_law := List.mem_of_getElem? (i := 40) rfl
set_option maxRecDepth 100000 in
theorem flX2_26 : Cond.fieldLink RX2 26 "CallKeepersModel" "length" "[I" ∈ wsL_law := List.mem_of_getElem? (i := 41) rfl
set_option maxRecDepth 100000 in
theorem flX2_29 : Cond.fieldLink RX2 29 "CallKeepersModel" "last" "[I" ∈ wsL_law := List.mem_of_getElem? (i := 42) rfl
set_option maxRecDepth 100000 in
theorem flX2_32 : Cond.fieldLink RX2 32 "CallKeepersModel" "came" "[I" ∈ wsL_law := List.mem_of_getElem? (i := 43) rfl
set_option maxRecDepth 100000 in
theorem flX2_35 : Cond.fieldLink RX2 35 "CallKeepersModel" "decision" "[I" ∈ wsL_law := List.mem_of_getElem? (i := 44) rfl
set_option maxRecDepth 100000 in
theorem flX2_38 : Cond.fieldLink RX2 38 "CallKeepersModel" "decidedAt" "[I" ∈ wsL_law := List.mem_of_getElem? (i := 45) rfl
set_option maxRecDepth 100000 in
theorem flX2_41 : Cond.fieldLink RX2 41 "CallKeepersModel" "kept" "[I" ∈ wsL_law := List.mem_of_getElem? (i := 46) rfl
set_option maxRecDepth 100000 in
theorem flX2_44 : Cond.fieldLink RX2 44 "CallKeepersModel" "sums" "[I" ∈ wsL_law := List.mem_of_getElem? (i := 47) rfl
set_option maxRecDepth 100000 in
theorem flX2_47 : Cond.fieldLink RX2 47 "CallKeepersModel" "steps" "[I" ∈ wsL_law := List.mem_of_getElem? (i := 48) rfl
set_option maxRecDepth 100000 in
theorem flX2_50 : Cond.fieldLink RX2 50 "CallKeepersModel" "counts" "[I" ∈ wsL_law := List.mem_of_getElem? (i := 49) rfl
set_option maxRecDepth 100000 in
theorem flX2_53 : Cond.fieldLink RX2 53 "CallKeepersModel" "thrown" "I" ∈ wsL_law := List.mem_of_getElem? (i := 79) rfl
set_option maxRecDepth 100000 in
theorem flX2_65 : Cond.fieldLink RX2 65 "CallKeepersModel" "trace" "J" ∈ wsL_law := List.mem_of_getElem? (i := 230) rfl
set_option maxRecDepth 100000 in
theorem flX2_79 : Cond.fieldLink RX2 79 "CallKeepersModel" "now" "I" ∈ wsL_law := List.mem_of_getElem? (i := 216) rfl
set_option maxRecDepth 100000 in
theorem flX2_82 : Cond.fieldLink RX2 82 "CallKeepersModel" "keptMany" "I" ∈ wsL_law := List.mem_of_getElem? (i := 225) rfl
set_option maxRecDepth 100000 in
theorem clX1_189 : Cond.constantLong RX1 189 (1000) ∈ wsL_law := List.mem_of_getElem? (i := 163) rfl
set_option maxRecDepth 100000 in
theorem clX1_191 : Cond.constantLong RX1 191 (100) ∈ wsL_law := List.mem_of_getElem? (i := 168) rfl
set_option maxRecDepth 100000 in
theorem clX1_196 : Cond.constantLong RX1 196 (10) ∈ wsL_law := List.mem_of_getElem? (i := 173) rfl
set_option maxRecDepth 100000 in
theorem clX2_69 : Cond.constantLong RX2 69 (1000) ∈ wsL_law := List.mem_of_getElem? (i := 231) rfl
set_option maxRecDepth 100000 in
theorem clX2_71 : Cond.constantLong RX2 71 (100) ∈ wsL_law := List.mem_of_getElem? (i := 232) rfl
set_option maxRecDepth 100000 in
theorem clX2_73 : Cond.constantLong RX2 73 (10) ∈ wsL_law := List.mem_of_getElem? (i := 233) rfl
set_option maxRecDepth 100000 in
theorem kgL_9 : kGI RL 9 yX1_init cX1_init 2 0 := ⟨List.mem_of_getElem? (i := 6) rfl, List.mem_of_getElem? (i := 7) rfl, List.mem_of_getElem? (i := 2) rfl, List.mem_of_getElem? (i := 8) rfl, rfl, by decide +kernel⟩
set_option maxRecDepth 100000 in
theorem kgL_12 : kGI RL 12 yX2_init cX2_init 2 0 := ⟨List.mem_of_getElem? (i := 32) rfl, List.mem_of_getElem? (i := 33) rfl, List.mem_of_getElem? (i := 5) rfl, List.mem_of_getElem? (i := 34) rfl, rfl, by decide +kernel⟩
set_option maxRecDepth 100000 in
theorem kgL_13 : kG RL 13 RX1 yX1_keeper cX1_keeper 3 (some .int) 2 := ⟨List.mem_of_getElem? (i := 50) rfl, List.mem_of_getElem? (i := 51) rfl, List.mem_of_getElem? (i := 52) rfl, List.mem_of_getElem? (i := 2) rfl, List.mem_of_getElem? (i := 53) rfl, by decide +kernel⟩
set_option maxRecDepth 100000 in
theorem kgL_17 : kG RL 17 RX2 yX2_keeper cX2_keeper 4 (some .int) 2 := ⟨List.mem_of_getElem? (i := 75) rfl, List.mem_of_getElem? (i := 76) rfl, List.mem_of_getElem? (i := 77) rfl, List.mem_of_getElem? (i := 5) rfl, List.mem_of_getElem? (i := 78) rfl, by decide +kernel⟩
set_option maxRecDepth 100000 in
theorem kgL_18 : kG RL 18 RX1 yX1_home cX1_home 2 (some .int) 1 := ⟨List.mem_of_getElem? (i := 87) rfl, List.mem_of_getElem? (i := 88) rfl, List.mem_of_getElem? (i := 89) rfl, List.mem_of_getElem? (i := 2) rfl, List.mem_of_getElem? (i := 90) rfl, by decide +kernel⟩
set_option maxRecDepth 100000 in
theorem kgL_22 : kG RL 22 RX2 yX2_home cX2_home 2 (some .int) 1 := ⟨List.mem_of_getElem? (i := 91) rfl, List.mem_of_getElem? (i := 92) rfl, List.mem_of_getElem? (i := 93) rfl, List.mem_of_getElem? (i := 5) rfl, List.mem_of_getElem? (i := 94) rfl, by decide +kernel⟩
set_option maxRecDepth 100000 in
theorem kgL_23 : kG RL 23 RX1 yX1_set cX1_set 4 (some .int) 2 := ⟨List.mem_of_getElem? (i := 95) rfl, List.mem_of_getElem? (i := 96) rfl, List.mem_of_getElem? (i := 97) rfl, List.mem_of_getElem? (i := 2) rfl, List.mem_of_getElem? (i := 98) rfl, by decide +kernel⟩
set_option maxRecDepth 100000 in
theorem kgL_27 : kG RL 27 RX2 yX2_set cX2_set 6 (some .int) 2 := ⟨List.mem_of_getElem? (i := 108) rfl, List.mem_of_getElem? (i := 109) rfl, List.mem_of_getElem? (i := 110) rfl, List.mem_of_getElem? (i := 5) rfl, List.mem_of_getElem? (i := 111) rfl, by decide +kernel⟩
set_option maxRecDepth 100000 in
theorem kgL_28 : kG RL 28 RX1 yX1_piece cX1_piece 10 (some .int) 5 := ⟨List.mem_of_getElem? (i := 112) rfl, List.mem_of_getElem? (i := 113) rfl, List.mem_of_getElem? (i := 114) rfl, List.mem_of_getElem? (i := 2) rfl, List.mem_of_getElem? (i := 115) rfl, by decide +kernel⟩
set_option maxRecDepth 100000 in
theorem kgL_32 : kG RL 32 RX2 yX2_piece cX2_piece 7 (some .int) 5 := ⟨List.mem_of_getElem? (i := 208) rfl, List.mem_of_getElem? (i := 209) rfl, List.mem_of_getElem? (i := 210) rfl, List.mem_of_getElem? (i := 5) rfl, List.mem_of_getElem? (i := 211) rfl, by decide +kernel⟩
set_option maxRecDepth 100000 in
theorem kgL_33 : kG RL 33 RX1 yX1_tick cX1_tick 4 (some .int) 1 := ⟨List.mem_of_getElem? (i := 246) rfl, List.mem_of_getElem? (i := 247) rfl, List.mem_of_getElem? (i := 248) rfl, List.mem_of_getElem? (i := 2) rfl, List.mem_of_getElem? (i := 249) rfl, by decide +kernel⟩
set_option maxRecDepth 100000 in
theorem kgL_36 : kG RL 36 RX2 yX2_tick cX2_tick 5 (some .int) 1 := ⟨List.mem_of_getElem? (i := 255) rfl, List.mem_of_getElem? (i := 256) rfl, List.mem_of_getElem? (i := 257) rfl, List.mem_of_getElem? (i := 5) rfl, List.mem_of_getElem? (i := 258) rfl, by decide +kernel⟩
set_option maxRecDepth 100000 in
theorem kgL_37 : kG RL 37 RX1 yX1_waits cX1_waits 4 (some .int) 2 := ⟨List.mem_of_getElem? (i := 259) rfl, List.mem_of_getElem? (i := 260) rfl, List.mem_of_getElem? (i := 261) rfl, List.mem_of_getElem? (i := 2) rfl, List.mem_of_getElem? (i := 262) rfl, by decide +kernel⟩
set_option maxRecDepth 100000 in
theorem kgL_40 : kG RL 40 RX2 yX2_waits cX2_waits 3 (some .int) 2 := ⟨List.mem_of_getElem? (i := 264) rfl, List.mem_of_getElem? (i := 265) rfl, List.mem_of_getElem? (i := 266) rfl, List.mem_of_getElem? (i := 5) rfl, List.mem_of_getElem? (i := 267) rfl, by decide +kernel⟩
set_option maxRecDepth 100000 in
theorem kgL_41 : kG RL 41 RX1 yX1_remembered cX1_remembered 3 (some .int) 1 := ⟨List.mem_of_getElem? (i := 268) rfl, List.mem_of_getElem? (i := 269) rfl, List.mem_of_getElem? (i := 270) rfl, List.mem_of_getElem? (i := 2) rfl, List.mem_of_getElem? (i := 271) rfl, by decide +kernel⟩
set_option maxRecDepth 100000 in
theorem kgL_44 : kG RL 44 RX2 yX2_remembered cX2_remembered 2 (some .int) 1 := ⟨List.mem_of_getElem? (i := 272) rfl, List.mem_of_getElem? (i := 273) rfl, List.mem_of_getElem? (i := 274) rfl, List.mem_of_getElem? (i := 5) rfl, List.mem_of_getElem? (i := 275) rfl, by decide +kernel⟩
set_option maxRecDepth 100000 in
theorem kgL_45 : kG RL 45 RX1 yX1_kept cX1_kept 4 (some .int) 2 := ⟨List.mem_of_getElem? (i := 276) rfl, List.mem_of_getElem? (i := 277) rfl, List.mem_of_getElem? (i := 278) rfl, List.mem_of_getElem? (i := 2) rfl, List.mem_of_getElem? (i := 279) rfl, by decide +kernel⟩
set_option maxRecDepth 100000 in
theorem kgL_48 : kG RL 48 RX2 yX2_kept cX2_kept 3 (some .int) 2 := ⟨List.mem_of_getElem? (i := 284) rfl, List.mem_of_getElem? (i := 285) rfl, List.mem_of_getElem? (i := 286) rfl, List.mem_of_getElem? (i := 5) rfl, List.mem_of_getElem? (i := 287) rfl, by decide +kernel⟩
set_option maxRecDepth 100000 in
theorem kgL_49 : kG RL 49 RX1 yX1_take cX1_take 3 (some .int) 1 := ⟨List.mem_of_getElem? (i := 288) rfl, List.mem_of_getElem? (i := 289) rfl, List.mem_of_getElem? (i := 290) rfl, List.mem_of_getElem? (i := 2) rfl, List.mem_of_getElem? (i := 291) rfl, by decide +kernel⟩
set_option maxRecDepth 100000 in
theorem kgL_52 : kG RL 52 RX2 yX2_take cX2_take 6 (some .int) 1 := ⟨List.mem_of_getElem? (i := 296) rfl, List.mem_of_getElem? (i := 297) rfl, List.mem_of_getElem? (i := 298) rfl, List.mem_of_getElem? (i := 5) rfl, List.mem_of_getElem? (i := 299) rfl, by decide +kernel⟩
set_option maxRecDepth 100000 in
theorem kgL_53 : kG RL 53 RX1 yX1_shape cX1_shape 3 (some .int) 2 := ⟨List.mem_of_getElem? (i := 300) rfl, List.mem_of_getElem? (i := 301) rfl, List.mem_of_getElem? (i := 302) rfl, List.mem_of_getElem? (i := 2) rfl, List.mem_of_getElem? (i := 303) rfl, by decide +kernel⟩
set_option maxRecDepth 100000 in
theorem kgL_56 : kG RL 56 RX2 yX2_shape cX2_shape 3 (some .int) 2 := ⟨List.mem_of_getElem? (i := 304) rfl, List.mem_of_getElem? (i := 305) rfl, List.mem_of_getElem? (i := 306) rfl, List.mem_of_getElem? (i := 5) rfl, List.mem_of_getElem? (i := 307) rfl, by decide +kernel⟩
set_option maxRecDepth 100000 in
theorem kgL_57 : kG RL 57 RX1 yX1_step cX1_step 2 (some .int) 1 := ⟨List.mem_of_getElem? (i := 308) rfl, List.mem_of_getElem? (i := 309) rfl, List.mem_of_getElem? (i := 310) rfl, List.mem_of_getElem? (i := 2) rfl, List.mem_of_getElem? (i := 311) rfl, by decide +kernel⟩
set_option maxRecDepth 100000 in
theorem kgL_60 : kG RL 60 RX2 yX2_step cX2_step 2 (some .int) 1 := ⟨List.mem_of_getElem? (i := 312) rfl, List.mem_of_getElem? (i := 313) rfl, List.mem_of_getElem? (i := 314) rfl, List.mem_of_getElem? (i := 5) rfl, List.mem_of_getElem? (i := 315) rfl, by decide +kernel⟩
set_option maxRecDepth 100000 in
theorem kgL_61 : kG RL 61 RX1 yX1_bound cX1_bound 5 (some .int) 3 := ⟨List.mem_of_getElem? (i := 316) rfl, List.mem_of_getElem? (i := 317) rfl, List.mem_of_getElem? (i := 318) rfl, List.mem_of_getElem? (i := 2) rfl, List.mem_of_getElem? (i := 319) rfl, by decide +kernel⟩
set_option maxRecDepth 100000 in
theorem kgL_65 : kG RL 65 RX2 yX2_bound cX2_bound 7 (some .int) 3 := ⟨List.mem_of_getElem? (i := 324) rfl, List.mem_of_getElem? (i := 325) rfl, List.mem_of_getElem? (i := 326) rfl, List.mem_of_getElem? (i := 5) rfl, List.mem_of_getElem? (i := 327) rfl, by decide +kernel⟩
set_option maxRecDepth 100000 in
theorem kgL_66 : kG RL 66 RX1 yX1_count cX1_count 2 (some .int) 1 := ⟨List.mem_of_getElem? (i := 328) rfl, List.mem_of_getElem? (i := 329) rfl, List.mem_of_getElem? (i := 330) rfl, List.mem_of_getElem? (i := 2) rfl, List.mem_of_getElem? (i := 331) rfl, by decide +kernel⟩
set_option maxRecDepth 100000 in
theorem kgL_69 : kG RL 69 RX2 yX2_count cX2_count 4 (some .int) 1 := ⟨List.mem_of_getElem? (i := 332) rfl, List.mem_of_getElem? (i := 333) rfl, List.mem_of_getElem? (i := 334) rfl, List.mem_of_getElem? (i := 5) rfl, List.mem_of_getElem? (i := 335) rfl, by decide +kernel⟩
set_option maxRecDepth 100000 in
theorem kgL_70 : kG RL 70 RX1 yX1_trace cX1_trace 1 (some .long) 0 := ⟨List.mem_of_getElem? (i := 336) rfl, List.mem_of_getElem? (i := 337) rfl, List.mem_of_getElem? (i := 338) rfl, List.mem_of_getElem? (i := 2) rfl, List.mem_of_getElem? (i := 339) rfl, by decide +kernel⟩
set_option maxRecDepth 100000 in
theorem kgL_74 : kG RL 74 RX2 yX2_trace cX2_trace 1 (some .long) 0 := ⟨List.mem_of_getElem? (i := 340) rfl, List.mem_of_getElem? (i := 341) rfl, List.mem_of_getElem? (i := 342) rfl, List.mem_of_getElem? (i := 5) rfl, List.mem_of_getElem? (i := 343) rfl, by decide +kernel⟩
set_option maxRecDepth 100000 in
theorem kgX1_52 : kGS RX1 52 yX1_isBelow cX1_isBelow 2 (some .boolean) 2 := ⟨List.mem_of_getElem? (i := 54) rfl, List.mem_of_getElem? (i := 55) rfl, List.mem_of_getElem? (i := 2) rfl, List.mem_of_getElem? (i := 56) rfl, by decide +kernel⟩
set_option maxRecDepth 100000 in
theorem kgX1_56 : kG RX1 56 RX1 yX1_loseCallsAt cX1_loseCallsAt 4 none 1 := ⟨List.mem_of_getElem? (i := 57) rfl, List.mem_of_getElem? (i := 58) rfl, List.mem_of_getElem? (i := 59) rfl, List.mem_of_getElem? (i := 2) rfl, List.mem_of_getElem? (i := 60) rfl, by decide +kernel⟩
set_option maxRecDepth 100000 in
theorem kgX1_60 : kG RX1 60 RX1 yX1_moveCallsHome cX1_moveCallsHome 4 none 0 := ⟨List.mem_of_getElem? (i := 67) rfl, List.mem_of_getElem? (i := 68) rfl, List.mem_of_getElem? (i := 69) rfl, List.mem_of_getElem? (i := 2) rfl, List.mem_of_getElem? (i := 70) rfl, by decide +kernel⟩
set_option maxRecDepth 100000 in
theorem kgX1_63 : kG RX1 63 RX1 yX1_homeOf cX1_homeOf 6 (some .int) 1 := ⟨List.mem_of_getElem? (i := 71) rfl, List.mem_of_getElem? (i := 72) rfl, List.mem_of_getElem? (i := 73) rfl, List.mem_of_getElem? (i := 2) rfl, List.mem_of_getElem? (i := 74) rfl, by decide +kernel⟩
set_option maxRecDepth 100000 in
theorem kgX1_73 : kGS RX1 73 yX1_isWithin cX1_isWithin 3 (some .boolean) 3 := ⟨List.mem_of_getElem? (i := 101) rfl, List.mem_of_getElem? (i := 102) rfl, List.mem_of_getElem? (i := 2) rfl, List.mem_of_getElem? (i := 103) rfl, by decide +kernel⟩
set_option maxRecDepth 100000 in
theorem kgX1_77 : kG RX1 77 RX1 yX1_leaveFair cX1_leaveFair 2 none 0 := ⟨List.mem_of_getElem? (i := 104) rfl, List.mem_of_getElem? (i := 105) rfl, List.mem_of_getElem? (i := 106) rfl, List.mem_of_getElem? (i := 2) rfl, List.mem_of_getElem? (i := 107) rfl, by decide +kernel⟩
set_option maxRecDepth 100000 in
theorem kgX1_80 : kG RX1 80 RX1 yX1_counted cX1_counted 3 (some .int) 2 := ⟨List.mem_of_getElem? (i := 118) rfl, List.mem_of_getElem? (i := 119) rfl, List.mem_of_getElem? (i := 120) rfl, List.mem_of_getElem? (i := 2) rfl, List.mem_of_getElem? (i := 121) rfl, by decide +kernel⟩
set_option maxRecDepth 100000 in
theorem kgX1_84 : kG RX1 84 RX1 yX1_hearWaiting cX1_hearWaiting 5 (some .int) 4 := ⟨List.mem_of_getElem? (i := 122) rfl, List.mem_of_getElem? (i := 123) rfl, List.mem_of_getElem? (i := 124) rfl, List.mem_of_getElem? (i := 2) rfl, List.mem_of_getElem? (i := 125) rfl, by decide +kernel⟩
set_option maxRecDepth 100000 in
theorem kgX1_88 : kG RX1 88 RX1 yX1_recall cX1_recall 3 (some (.object "CallKeepers$Call")) 1 := ⟨List.mem_of_getElem? (i := 186) rfl, List.mem_of_getElem? (i := 187) rfl, List.mem_of_getElem? (i := 188) rfl, List.mem_of_getElem? (i := 2) rfl, List.mem_of_getElem? (i := 189) rfl, by decide +kernel⟩
set_option maxRecDepth 100000 in
theorem kgX1_92 : kG RX1 92 RX1 yX1_hearDecided cX1_hearDecided 5 (some .int) 3 := ⟨List.mem_of_getElem? (i := 191) rfl, List.mem_of_getElem? (i := 192) rfl, List.mem_of_getElem? (i := 193) rfl, List.mem_of_getElem? (i := 2) rfl, List.mem_of_getElem? (i := 194) rfl, by decide +kernel⟩
set_option maxRecDepth 100000 in
theorem kgX1_96 : kGI RX1 96 yX0_init cX0_init 5 4 := ⟨List.mem_of_getElem? (i := 195) rfl, List.mem_of_getElem? (i := 196) rfl, List.mem_of_getElem? (i := 117) rfl, List.mem_of_getElem? (i := 197) rfl, rfl, by decide +kernel⟩
set_option maxRecDepth 100000 in
theorem kgX1_99 : kG RX1 99 RX1 yX1_takeIn cX1_takeIn 5 (some .int) 4 := ⟨List.mem_of_getElem? (i := 136) rfl, List.mem_of_getElem? (i := 137) rfl, List.mem_of_getElem? (i := 138) rfl, List.mem_of_getElem? (i := 2) rfl, List.mem_of_getElem? (i := 139) rfl, by decide +kernel⟩
set_option maxRecDepth 100000 in
theorem kgX1_102 : kG RX1 102 RX1 yX1_passOneTick cX1_passOneTick 3 none 0 := ⟨List.mem_of_getElem? (i := 250) rfl, List.mem_of_getElem? (i := 251) rfl, List.mem_of_getElem? (i := 252) rfl, List.mem_of_getElem? (i := 2) rfl, List.mem_of_getElem? (i := 253) rfl, by decide +kernel⟩
set_option maxRecDepth 100000 in
theorem kgX1_128 : kG RX1 128 RX1 yX1_keptAt cX1_keptAt 2 (some (.object "CallKeepers$Call")) 1 := ⟨List.mem_of_getElem? (i := 280) rfl, List.mem_of_getElem? (i := 281) rfl, List.mem_of_getElem? (i := 282) rfl, List.mem_of_getElem? (i := 2) rfl, List.mem_of_getElem? (i := 283) rfl, by decide +kernel⟩
set_option maxRecDepth 100000 in
theorem kgX1_143 : kG RX1 143 RX1 yX1_closeRowAt cX1_closeRowAt 3 none 1 := ⟨List.mem_of_getElem? (i := 292) rfl, List.mem_of_getElem? (i := 293) rfl, List.mem_of_getElem? (i := 294) rfl, List.mem_of_getElem? (i := 2) rfl, List.mem_of_getElem? (i := 295) rfl, by decide +kernel⟩
set_option maxRecDepth 100000 in
theorem kgX1_149 : kG RX1 149 RX1 yX1_stepOfShare cX1_stepOfShare 8 (some .int) 2 := ⟨List.mem_of_getElem? (i := 320) rfl, List.mem_of_getElem? (i := 321) rfl, List.mem_of_getElem? (i := 322) rfl, List.mem_of_getElem? (i := 2) rfl, List.mem_of_getElem? (i := 323) rfl, by decide +kernel⟩
set_option maxRecDepth 100000 in
theorem kgX1_152 : kG RX1 152 RX1 yX1_stopWaiting cX1_stopWaiting 2 none 1 := ⟨List.mem_of_getElem? (i := 62) rfl, List.mem_of_getElem? (i := 63) rfl, List.mem_of_getElem? (i := 64) rfl, List.mem_of_getElem? (i := 2) rfl, List.mem_of_getElem? (i := 65) rfl, by decide +kernel⟩
set_option maxRecDepth 100000 in
theorem kgX1_156 : kG RX1 156 RX0 yX0_has cX0_has 2 (some .boolean) 1 := ⟨List.mem_of_getElem? (i := 126) rfl, List.mem_of_getElem? (i := 127) rfl, List.mem_of_getElem? (i := 128) rfl, List.mem_of_getElem? (i := 117) rfl, List.mem_of_getElem? (i := 129) rfl, by decide +kernel⟩
set_option maxRecDepth 100000 in
theorem kgX1_160 : kG RX1 160 RX0 yX0_contradicts cX0_contradicts 6 (some .boolean) 2 := ⟨List.mem_of_getElem? (i := 131) rfl, List.mem_of_getElem? (i := 132) rfl, List.mem_of_getElem? (i := 133) rfl, List.mem_of_getElem? (i := 117) rfl, List.mem_of_getElem? (i := 134) rfl, by decide +kernel⟩
set_option maxRecDepth 100000 in
theorem kgX1_164 : kG RX1 164 RX0 yX0_add cX0_add 3 none 2 := ⟨List.mem_of_getElem? (i := 141) rfl, List.mem_of_getElem? (i := 142) rfl, List.mem_of_getElem? (i := 143) rfl, List.mem_of_getElem? (i := 117) rfl, List.mem_of_getElem? (i := 144) rfl, by decide +kernel⟩
set_option maxRecDepth 100000 in
theorem kgX1_168 : kG RX1 168 RX0 yX0_isWhole cX0_isWhole 2 (some .boolean) 0 := ⟨List.mem_of_getElem? (i := 146) rfl, List.mem_of_getElem? (i := 147) rfl, List.mem_of_getElem? (i := 148) rfl, List.mem_of_getElem? (i := 117) rfl, List.mem_of_getElem? (i := 149) rfl, by decide +kernel⟩
set_option maxRecDepth 100000 in
theorem kgX1_172 : kG RX1 172 RX1 yX1_decide cX1_decide 3 none 2 := ⟨List.mem_of_getElem? (i := 150) rfl, List.mem_of_getElem? (i := 151) rfl, List.mem_of_getElem? (i := 152) rfl, List.mem_of_getElem? (i := 2) rfl, List.mem_of_getElem? (i := 153) rfl, by decide +kernel⟩
set_option maxRecDepth 100000 in
theorem kgX1_176 : kG RX1 176 RX1 yX1_weighTorn cX1_weighTorn 2 (some .int) 1 := ⟨List.mem_of_getElem? (i := 159) rfl, List.mem_of_getElem? (i := 160) rfl, List.mem_of_getElem? (i := 161) rfl, List.mem_of_getElem? (i := 2) rfl, List.mem_of_getElem? (i := 162) rfl, by decide +kernel⟩
set_option maxRecDepth 100000 in
theorem kgX1_180 : kG RX1 180 RX1 yX1_weighRare cX1_weighRare 2 (some .int) 1 := ⟨List.mem_of_getElem? (i := 164) rfl, List.mem_of_getElem? (i := 165) rfl, List.mem_of_getElem? (i := 166) rfl, List.mem_of_getElem? (i := 2) rfl, List.mem_of_getElem? (i := 167) rfl, by decide +kernel⟩
set_option maxRecDepth 100000 in
theorem kgX1_183 : kGS RX1 183 yX1_stepOf cX1_stepOf 2 (some .int) 1 := ⟨List.mem_of_getElem? (i := 178) rfl, List.mem_of_getElem? (i := 179) rfl, List.mem_of_getElem? (i := 2) rfl, List.mem_of_getElem? (i := 180) rfl, by decide +kernel⟩
set_option maxRecDepth 100000 in
theorem kgX1_186 : kG RX1 186 RX1 yX1_keepOrLetFall cX1_keepOrLetFall 3 none 1 := ⟨List.mem_of_getElem? (i := 181) rfl, List.mem_of_getElem? (i := 182) rfl, List.mem_of_getElem? (i := 183) rfl, List.mem_of_getElem? (i := 2) rfl, List.mem_of_getElem? (i := 184) rfl, by decide +kernel⟩
set_option maxRecDepth 100000 in
theorem kgX1_193 : kG RX1 193 RX1 yX1_weighLong cX1_weighLong 2 (some .int) 1 := ⟨List.mem_of_getElem? (i := 169) rfl, List.mem_of_getElem? (i := 170) rfl, List.mem_of_getElem? (i := 171) rfl, List.mem_of_getElem? (i := 2) rfl, List.mem_of_getElem? (i := 172) rfl, by decide +kernel⟩
set_option maxRecDepth 100000 in
theorem kgX1_198 : kG RX1 198 RX1 yX1_weighFair cX1_weighFair 3 (some .int) 1 := ⟨List.mem_of_getElem? (i := 174) rfl, List.mem_of_getElem? (i := 175) rfl, List.mem_of_getElem? (i := 176) rfl, List.mem_of_getElem? (i := 2) rfl, List.mem_of_getElem? (i := 177) rfl, by decide +kernel⟩
set_option maxRecDepth 100000 in
theorem kgX2_57 : kGS RX2 57 yX2_in cX2_in 3 (some .boolean) 3 := ⟨List.mem_of_getElem? (i := 80) rfl, List.mem_of_getElem? (i := 81) rfl, List.mem_of_getElem? (i := 5) rfl, List.mem_of_getElem? (i := 82) rfl, by decide +kernel⟩
set_option maxRecDepth 100000 in
theorem kgX2_61 : kG RX2 61 RX2 yX2_homeOf cX2_homeOf 6 (some .int) 1 := ⟨List.mem_of_getElem? (i := 83) rfl, List.mem_of_getElem? (i := 84) rfl, List.mem_of_getElem? (i := 85) rfl, List.mem_of_getElem? (i := 5) rfl, List.mem_of_getElem? (i := 86) rfl, by decide +kernel⟩
set_option maxRecDepth 100000 in
theorem kgX2_75 : kG RX2 75 RX2 yX2_weightOf cX2_weightOf 4 (some .int) 3 := ⟨List.mem_of_getElem? (i := 226) rfl, List.mem_of_getElem? (i := 227) rfl, List.mem_of_getElem? (i := 228) rfl, List.mem_of_getElem? (i := 5) rfl, List.mem_of_getElem? (i := 229) rfl, by decide +kernel⟩
set_option maxRecDepth 100000 in
theorem kgX2_85 : kG RX2 85 RX2 yX2_decides cX2_decides 8 none 2 := ⟨List.mem_of_getElem? (i := 221) rfl, List.mem_of_getElem? (i := 222) rfl, List.mem_of_getElem? (i := 223) rfl, List.mem_of_getElem? (i := 5) rfl, List.mem_of_getElem? (i := 224) rfl, by decide +kernel⟩
set_option maxRecDepth 100000 in
theorem kgX2_89 : kG RX2 89 RX2 yX2_joins cX2_joins 5 (some .int) 4 := ⟨List.mem_of_getElem? (i := 217) rfl, List.mem_of_getElem? (i := 218) rfl, List.mem_of_getElem? (i := 219) rfl, List.mem_of_getElem? (i := 5) rfl, List.mem_of_getElem? (i := 220) rfl, by decide +kernel⟩
set_option maxRecDepth 100000 in
theorem kgX2_93 : kG RX2 93 RX2 yX2_isKnown cX2_isKnown 2 (some .boolean) 1 := ⟨List.mem_of_getElem? (i := 234) rfl, List.mem_of_getElem? (i := 235) rfl, List.mem_of_getElem? (i := 236) rfl, List.mem_of_getElem? (i := 5) rfl, List.mem_of_getElem? (i := 237) rfl, by decide +kernel⟩
set_option maxRecDepth 100000 in
theorem kgX2_97 : kG RX2 97 RX2 yX2_keptAt cX2_keptAt 3 (some .int) 1 := ⟨List.mem_of_getElem? (i := 238) rfl, List.mem_of_getElem? (i := 239) rfl, List.mem_of_getElem? (i := 240) rfl, List.mem_of_getElem? (i := 5) rfl, List.mem_of_getElem? (i := 241) rfl, by decide +kernel⟩
set_option maxRecDepth 100000 in
theorem kgX2_100 : kG RX2 100 RX2 yX2_waitingMany cX2_waitingMany 3 (some .int) 0 := ⟨List.mem_of_getElem? (i := 242) rfl, List.mem_of_getElem? (i := 243) rfl, List.mem_of_getElem? (i := 244) rfl, List.mem_of_getElem? (i := 5) rfl, List.mem_of_getElem? (i := 245) rfl, by decide +kernel⟩
set_option maxRecDepth 100000 in
theorem kgX2_104 : kG RX2 104 RX2 yX2_comes cX2_comes 7 (some .int) 5 := ⟨List.mem_of_getElem? (i := 212) rfl, List.mem_of_getElem? (i := 213) rfl, List.mem_of_getElem? (i := 214) rfl, List.mem_of_getElem? (i := 5) rfl, List.mem_of_getElem? (i := 215) rfl, by decide +kernel⟩
end
section
/-! the reference's world: its object, fourteen arrays; its state: arrays, now, trace, keptMany -/
abbrev MS : Type := (Nat → Nat → Int32) × Int32 × Int64 × Nat
def mset (st : MS) (k i : Nat) (v : Int32) : MS := (va_up st.1 k (upd (st.1 k) i v), st.2)
def mnow (st : MS) (v : Int32) : MS := (st.1, v, st.2.2)
def mtr (st : MS) (v : Int64) : MS := (st.1, st.2.1, v, st.2.2.2)
def mkm (st : MS) (n : Nat) : MS := (st.1, st.2.1, st.2.2.1, n)
def msz (k : Nat) : Nat := match k with
  | 0 => 4
  | 1 => 6
  | 10 => 160
  | 11 => 35
  | 12 => 14
  | 13 => 13
  | _ => 100
def mfs (g : Nat → Nat) (st : MS) : List Value := [.int 0, .int st.2.1, .long st.2.2.1, .ref (g 1), .ref (g 2), .ref (g 3), .ref (g 4), .ref (g 5), .ref (g 6), .ref (g 7), .ref (g 8), .ref (g 9), .ref (g 10), .ref (g 11), .int (nI st.2.2.2), .ref (g 12), .ref (g 13), .ref (g 14)]
def mcl (K : Nat → ClassId) (k : Nat) : ClassId := match k with
  | 0 => K 0
  | _ => K 1
def mw (g : Nat → Nat) (K : Nat → ClassId) (st : MS) : va_W := [(g 0, .inr (2, mfs g st)), (g 1, .inl (K 0, 4, .inl (st.1 0))), (g 2, .inl (K 1, 6, .inl (st.1 1))), (g 3, .inl (K 1, 100, .inl (st.1 2))), (g 4, .inl (K 1, 100, .inl (st.1 3))), (g 5, .inl (K 1, 100, .inl (st.1 4))), (g 6, .inl (K 1, 100, .inl (st.1 5))), (g 7, .inl (K 1, 100, .inl (st.1 6))), (g 8, .inl (K 1, 100, .inl (st.1 7))), (g 9, .inl (K 1, 100, .inl (st.1 8))), (g 10, .inl (K 1, 100, .inl (st.1 9))), (g 11, .inl (K 1, 160, .inl (st.1 10))), (g 12, .inl (K 1, 35, .inl (st.1 11))), (g 13, .inl (K 1, 14, .inl (st.1 12))), (g 14, .inl (K 1, 13, .inl (st.1 13)))]
abbrev mty (K : Nat → ClassId) : List (ClassId × FieldType) := [(K 0, .boolean), (K 1, .int)]
theorem k14 {k : Nat} (h : k < 14) : k = 0 ∨ k = 1 ∨ k = 2 ∨ k = 3 ∨ k = 4 ∨ k = 5 ∨ k = 6 ∨ k = 7 ∨ k = 8 ∨ k = 9 ∨ k = 10 ∨ k = 11 ∨ k = 12 ∨ k = 13 := by omega
theorem mw_at {g : Nat → Nat} {K : Nat → ClassId} {st : MS} {k : Nat} (h : k < 14) : (mw g K st)[k + 1]? = some (g (k + 1), .inl (mcl K k, msz k, .inl (st.1 k))) := by
  rcases k14 h with rfl | rfl | rfl | rfl | rfl | rfl | rfl | rfl | rfl | rfl | rfl | rfl | rfl | rfl <;> rfl
theorem mw_set {g : Nat → Nat} {K : Nat → ClassId} {st : MS} {k i : Nat} {v : Int32} (h : k < 14) : (mw g K st).set (k + 1) (g (k + 1), .inl (mcl K k, msz k, .inl (upd (st.1 k) i v))) = mw g K (mset st k i v) := by
  rcases k14 h with rfl | rfl | rfl | rfl | rfl | rfl | rfl | rfl | rfl | rfl | rfl | rfl | rfl | rfl <;> rfl
theorem mcl_n0 {K : Nat → ClassId} {k : Nat} (h : 0 < k) : mcl K k = K 1 := by
  cases k with
  | zero => exact absurd h (by decide)
  | succ n => rfl
theorem kinc (n k : Nat) : nI n + Int32.ofInt (k : Int) = nI (n + k) := nI_add n k
section MLAY
variable {p : Program} {l : Launch} {e : Env} {R : Room} {s : State} {m : MethodId} {args : Array Value} {below : List Frame} {meth : Method} {c : Code} {H : Heap} {locs : List Loc} {cells slots : Nat} {Q : State → Prop}
variable {cc : ByteArray} {pc : Nat} {ls : Array Slot} {rest : List Value} {D : va_G} {tys : List (ClassId × FieldType)} {A : Nat → Prop} {st : MS} {y0 : MethodName} {n0 : Nat} {r0 : Option FieldType} {g : Nat → Nat} {K : Nat → ClassId}
theorem m_rec (F : kF p s m args meth c y0 cc n0 r0 D tys) (hI : kI D (mw g K) A s.heap st H locs) : ∃ cellB : Cell, H[g 0]? = some cellB ∧ cellB.vm.isStatics = false ∧ s.vm.findClass RX2 = some cellB.cls :=
  va_recv (ci := 2) (q0 := 0) F.2.2.2.2.2.2.2.1 hI.1 rfl rfl
theorem m_get (F : kF p s m args meth c y0 cc n0 r0 D tys) (hI : kI D (mw g K) A s.heap st H locs) (k : Nat) (hk : k < 18) {v : Value} (hv : (mfs g st)[k]? = some v) {idx : Nat} {ref : String} (hl : Cond.fieldLink y0.cls idx ref (TX2 k).2.1 (TX2 k).2.2.1 ∈ wsL_law) (hdg : decode cc pc = .ok (.getfield idx, 3))
    (kk : W p l e R s m args below meth c H locs cells slots Q (F0 m (pc + 3) ls (v :: rest))) (hrf : ref = (TX2 k).1 := by rfl) : W p l e R s m args below meth c H locs cells slots Q (F0 m pc ls (.ref (g 0) :: rest)) := by
  subst hrf
  obtain ⟨hx, hb, hr, hml, hown, hts, hlk, hK, -⟩ := F
  exact va_get (D := D) (ci := 2) (v := v) (C := RX2) (T := TX2) (N := 18) hx hb hts inlX2 hown hK hI.1 0 rfl rfl k hk (hts _ hl) (fun _ h9 => h9) hv hdg kk
theorem m_putTh (F : kF p s m args meth c y0 cc n0 r0 D tys) (hI : kI D (mw g K) A s.heap st H locs) {idx : Nat} (hl : Cond.fieldLink y0.cls idx "CallKeepersModel" "thrown" "I" ∈ wsL_law) (hdg : decode cc pc = .ok (.putfield idx, 3))
    (kk : ∀ (H : Heap) (locs : List Loc), kI D (mw g K) A s.heap st H locs → W p l e R s m args below meth c H locs cells slots Q (F0 m (pc + 3) ls rest)) : W p l e R s m args below meth c H locs cells slots Q (F0 m pc ls (.int (nI 0) :: .ref (g 0) :: rest)) := by
  obtain ⟨hx, hb, hr, hml, hown, hts, hlk, hK, -⟩ := F
  exact va_put (D := D) (ci := 2) (v := .int (nI 0)) (ty := .int) (C := RX2) (T := TX2) (N := 18) hx hb hts inlX2 tyX2 tyX2_ok nmX2 hown hK hI.1 hI.2.1 hI.2.2 0 rfl rfl 0 (by decide) (hts _ hl) (fun _ h9 => h9) rfl (by decide +kernel) rfl rfl (Nat.le_of_ble_eq_true rfl) hdg (fun H locs hP hD hS => kk H locs ⟨hP, hD, hS⟩)
theorem m_putNow {v : Int32} (F : kF p s m args meth c y0 cc n0 r0 D tys) (hI : kI D (mw g K) A s.heap st H locs) {idx : Nat} (hl : Cond.fieldLink y0.cls idx "CallKeepersModel" "now" "I" ∈ wsL_law) (hdg : decode cc pc = .ok (.putfield idx, 3))
    (kk : ∀ (H : Heap) (locs : List Loc), kI D (mw g K) A s.heap (mnow st v) H locs → W p l e R s m args below meth c H locs cells slots Q (F0 m (pc + 3) ls rest)) : W p l e R s m args below meth c H locs cells slots Q (F0 m pc ls (.int v :: .ref (g 0) :: rest)) := by
  obtain ⟨hx, hb, hr, hml, hown, hts, hlk, hK, -⟩ := F
  exact va_put (D := D) (ci := 2) (v := .int v) (ty := .int) (C := RX2) (T := TX2) (N := 18) hx hb hts inlX2 tyX2 tyX2_ok nmX2 hown hK hI.1 hI.2.1 hI.2.2 0 rfl rfl 1 (by decide) (hts _ hl) (fun _ h9 => h9) rfl (by decide +kernel) rfl rfl (Nat.le_of_ble_eq_true rfl) hdg (fun H locs hP hD hS => kk H locs ⟨hP, hD, hS⟩)
theorem m_putTr {v : Int64} (F : kF p s m args meth c y0 cc n0 r0 D tys) (hI : kI D (mw g K) A s.heap st H locs) {idx : Nat} (hl : Cond.fieldLink y0.cls idx "CallKeepersModel" "trace" "J" ∈ wsL_law) (hdg : decode cc pc = .ok (.putfield idx, 3))
    (kk : ∀ (H : Heap) (locs : List Loc), kI D (mw g K) A s.heap (mtr st v) H locs → W p l e R s m args below meth c H locs cells slots Q (F0 m (pc + 3) ls rest)) : W p l e R s m args below meth c H locs cells slots Q (F0 m pc ls (.long v :: .ref (g 0) :: rest)) := by
  obtain ⟨hx, hb, hr, hml, hown, hts, hlk, hK, -⟩ := F
  exact va_put (D := D) (ci := 2) (v := .long v) (ty := .long) (C := RX2) (T := TX2) (N := 18) hx hb hts inlX2 tyX2 tyX2_ok nmX2 hown hK hI.1 hI.2.1 hI.2.2 0 rfl rfl 2 (by decide) (hts _ hl) (fun _ h9 => h9) rfl (by decide +kernel) rfl rfl (Nat.le_of_ble_eq_true rfl) hdg (fun H locs hP hD hS => kk H locs ⟨hP, hD, hS⟩)
theorem m_putKm {n : Nat} (F : kF p s m args meth c y0 cc n0 r0 D tys) (hI : kI D (mw g K) A s.heap st H locs) {idx : Nat} (hl : Cond.fieldLink y0.cls idx "CallKeepersModel" "keptMany" "I" ∈ wsL_law) (hdg : decode cc pc = .ok (.putfield idx, 3))
    (kk : ∀ (H : Heap) (locs : List Loc), kI D (mw g K) A s.heap (mkm st n) H locs → W p l e R s m args below meth c H locs cells slots Q (F0 m (pc + 3) ls rest)) : W p l e R s m args below meth c H locs cells slots Q (F0 m pc ls (.int (nI n) :: .ref (g 0) :: rest)) := by
  obtain ⟨hx, hb, hr, hml, hown, hts, hlk, hK, -⟩ := F
  exact va_put (D := D) (ci := 2) (v := .int (nI n)) (ty := .int) (C := RX2) (T := TX2) (N := 18) hx hb hts inlX2 tyX2 tyX2_ok nmX2 hown hK hI.1 hI.2.1 hI.2.2 0 rfl rfl 14 (by decide) (hts _ hl) (fun _ h9 => h9) rfl (by decide +kernel) rfl rfl (Nat.le_of_ble_eq_true rfl) hdg (fun H locs hP hD hS => kk H locs ⟨hP, hD, hS⟩)
theorem m_ald (F : kF p s m args meth c y0 cc n0 r0 D (mty K)) (hI : kI D (mw g K) A s.heap st H locs) (k : Nat) {i : Nat} {x : Int32} (hi : i < msz k) (hxi : x = nI i) (hdg : decode cc pc = .ok (.iaload, 1))
    (kk : W p l e R s m args below meth c H locs cells slots Q (F0 m (pc + 1) ls (.int (st.1 k i) :: rest))) (hk : k < 14 := by decide) (h0 : 0 < k := by decide) (hz : msz k < 2 ^ 31 := by decide) : W p l e R s m args below meth c H locs cells slots Q (F0 m pc ls (.int x :: .ref (g (k + 1)) :: rest)) := by
  subst hxi
  obtain ⟨hx, hb, hr, hml, hown, hts, hlk, hK, -⟩ := F
  have ha := mw_at (g := g) (K := K) (st := st) hk
  rw [mcl_n0 h0] at ha
  refine va_iald hx hb hK hI.1 (k + 1) 1 ha rfl (vp_in_nI hi hz) hdg ?_
  rw [nI_clamp (Nat.lt_trans hi hz)]
  exact kk
theorem m_zald (F : kF p s m args meth c y0 cc n0 r0 D (mty K)) (hI : kI D (mw g K) A s.heap st H locs) (k : Nat) {i : Nat} {x : Int32} (hi : i < msz k) (hxi : x = nI i) (hdg : decode cc pc = .ok (.baload, 1))
    (kk : W p l e R s m args below meth c H locs cells slots Q (F0 m (pc + 1) ls (.int (st.1 k i) :: rest))) (hk : k = 0 := by decide) : W p l e R s m args below meth c H locs cells slots Q (F0 m pc ls (.int x :: .ref (g (k + 1)) :: rest)) := by
  subst hxi
  subst hk
  obtain ⟨hx, hb, hr, hml, hown, hts, hlk, hK, -⟩ := F
  refine va_zald hx hb hK hI.1 1 0 rfl rfl (vp_in_nI hi (by decide)) hdg ?_
  rw [nI_clamp (Nat.lt_trans hi (by decide))]
  exact kk
theorem m_ast (F : kF p s m args meth c y0 cc n0 r0 D (mty K)) (hI : kI D (mw g K) A s.heap st H locs) (k : Nat) {i : Nat} {x v : Int32} (hi : i < msz k) (hxi : x = nI i) (hdg : decode cc pc = .ok (.iastore, 1))
    (kk : ∀ (H : Heap) (locs : List Loc), kI D (mw g K) A s.heap (mset st k i v) H locs → W p l e R s m args below meth c H locs cells slots Q (F0 m (pc + 1) ls rest)) (hk : k < 14 := by decide) (h0 : 0 < k := by decide) (hz : msz k < 2 ^ 31 := by decide) : W p l e R s m args below meth c H locs cells slots Q (F0 m pc ls (.int v :: .int x :: .ref (g (k + 1)) :: rest)) := by
  subst hxi
  obtain ⟨hx, hb, hr, hml, hown, hts, hlk, hK, -⟩ := F
  have ha := mw_at (g := g) (K := K) (st := st) hk
  have he := mw_set (g := g) (K := K) (st := st) (i := i) (v := v) hk
  rw [mcl_n0 h0] at ha he
  refine va_iast hx hb hK hI.1 hI.2.1 hI.2.2 (k + 1) 1 ha rfl (vp_in_nI hi hz) hdg (fun H locs hP hD hS => ?_)
  rw [nI_clamp (Nat.lt_trans hi hz), he] at hP hD
  exact kk H locs ⟨hP, hD, hS⟩
theorem m_zast (F : kF p s m args meth c y0 cc n0 r0 D (mty K)) (hI : kI D (mw g K) A s.heap st H locs) (k : Nat) {i : Nat} {x v : Int32} (hi : i < msz k) (hxi : x = nI i) (hn : vp_nar .boolean v = v) (hdg : decode cc pc = .ok (.bastore, 1))
    (kk : ∀ (H : Heap) (locs : List Loc), kI D (mw g K) A s.heap (mset st k i v) H locs → W p l e R s m args below meth c H locs cells slots Q (F0 m (pc + 1) ls rest)) (hk : k = 0 := by decide) : W p l e R s m args below meth c H locs cells slots Q (F0 m pc ls (.int v :: .int x :: .ref (g (k + 1)) :: rest)) := by
  subst hxi
  subst hk
  obtain ⟨hx, hb, hr, hml, hown, hts, hlk, hK, -⟩ := F
  refine va_zast hx hb hK hI.1 hI.2.1 hI.2.2 1 0 rfl rfl (vp_in_nI hi (by decide)) hdg (fun H locs hP hD hS => ?_)
  rw [nI_clamp (Nat.lt_trans hi (by decide)), hn] at hP hD
  exact kk H locs ⟨hP, hD, hS⟩
end MLAY
end
section
/-! numbers, truth values, loops -/
def bI (b : Bool) : Int32 := if b = true then nI 1 else nI 0
theorem bI_t : bI true = nI 1 := rfl
theorem bI_f : bI false = nI 0 := rfl
theorem bI_z {b : Bool} : bI b = 0 ↔ b = false := by cases b <;> decide
theorem bI_nar (b : Bool) : narrow .boolean (.int (bI b)) = .int (bI b) := by cases b <;> rfl
theorem bI_narz (b : Bool) : vp_nar .boolean (bI b) = bI b := by cases b <;> rfl
def inR (x a b : Int32) : Bool := decide (¬ x < a ∧ ¬ b < x)
theorem inR_nat {x : Int32} {a b : Nat} (ha : a < 2 ^ 31) (hb : b < 2 ^ 31) (h : inR x (nI a) (nI b) = true) : ∃ j : Nat, a ≤ j ∧ j ≤ b ∧ x = nI j := by
  simp only [inR, decide_eq_true_eq] at h
  have h0 : ¬ x < 0 := by
    intro h1
    apply h.1
    have e1 := nI_toInt (n := a) ha
    rw [Int32.lt_iff_toInt_lt] at h1 ⊢
    have e0 : (0 : Int32).toInt = 0 := by decide
    omega
  obtain ⟨j, hj, rfl⟩ := nI_of h0
  have h1 := h.1
  have h2 := h.2
  rw [nI_ltI hj ha] at h1
  rw [nI_ltI hb hj] at h2
  exact ⟨j, by omega, by omega, rfl⟩
theorem inR_in {a b j : Nat} (hb : b < 2 ^ 31) (h1 : a ≤ j) (h2 : j ≤ b) : inR (nI j) (nI a) (nI b) = true := by
  simp only [inR, decide_eq_true_eq]
  rw [nI_ltI (by omega) (by omega), nI_ltI (by omega) (by omega)]
  omega
section WLOOP
variable {p : Program} {l : Launch} {e : Env} {R : Room} {s : State} {m : MethodId} {args : Array Value} {below : List Frame} {meth : Method} {c : Code} {cells slots : Nat} {Q : State → Prop} {pc : Nat} {stk : List Value}
theorem wloop {σ : Type} (μ : σ → Nat) (I : σ → Heap → List Loc → Array Slot → Prop) (step : ∀ x H locs ls, I x H locs ls → (∀ x' H' locs' ls', μ x' < μ x → I x' H' locs' ls' → W p l e R s m args below meth c H' locs' cells slots Q (F0 m pc ls' stk)) → W p l e R s m args below meth c H locs cells slots Q (F0 m pc ls stk)) : ∀ x H locs ls, I x H locs ls → W p l e R s m args below meth c H locs cells slots Q (F0 m pc ls stk) := by
  have key : ∀ n x H locs ls, μ x < n → I x H locs ls → W p l e R s m args below meth c H locs cells slots Q (F0 m pc ls stk) := by
    intro n
    induction n with
    | zero => intro x H locs ls h; exact absurd h (by omega)
    | succ n ih =>
      intro x H locs ls h hi
      exact step x H locs ls hi (fun x' H' locs' ls' h1 h2 => ih x' H' locs' ls' (by omega) h2)
  intro x H locs ls h
  exact key (μ x + 1) x H locs ls (by omega) h
end WLOOP
/-! the reference, as functions of its state -/
def hmL (up : Nat → Bool) (n : Nat) : Nat → Nat → Int32 → Int32 → Int32
  | 0, _, b, _ => b
  | f + 1, k, b, t => if up k = true ∧ ¬ nI ((7 * n + 5 * k) % 11) ≤ t then hmL up n f (k + 1) (nI k) (nI ((7 * n + 5 * k) % 11)) else hmL up n f (k + 1) b t
def hm (up : Nat → Bool) (n : Nat) : Int32 := hmL up n 4 0 (-9) (-1)
def m_up (st : MS) : Nat → Bool := fun k => decide (st.1 0 k = 0)
def m_known (st : MS) (n : Nat) : Bool := decide (¬ st.1 8 n ≤ 0 ∧ ¬ nI 50 ≤ st.2.1 - st.1 9 n)
def m_keptL (st : MS) (n : Nat) : Nat → Nat → Int32
  | 0, _ => -9
  | f + 1, i => if st.1 10 (8 * i + 7) = st.1 8 n then nI i else m_keptL st n f (i + 1)
def m_keptAt (st : MS) (n : Nat) : Int32 := m_keptL st n st.2.2.2 0
def m_wmL (st : MS) : Nat → Nat → Int32 → Int32
  | 0, _, v => v
  | f + 1, i, v => m_wmL st f (i + 1) (if st.1 2 i = -9 then v + nI 0 else v + nI 1)
def m_wm (st : MS) : Int32 := m_wmL st 100 0 (nI 0)
def m_inc (st : MS) (k i : Nat) : MS := mset st k i (st.1 k i + nI 1)
def m_fair (st : MS) (sh : Nat) : Int32 × MS :=
  let s1 := m_inc (mtr st (st.2.2.1 + 1)) 11 (7 * sh + 5)
  if s1.1 1 0 ≤ s1.1 11 (7 * sh + 5) then (s1.1 1 0, mset s1 11 (7 * sh + 5) (nI 0)) else (nI 0, s1)
def m_long (st : MS) (sh : Nat) (size : Int32) : Int32 × MS :=
  let s1 := mtr st (st.2.2.1 + 10)
  if size < s1.1 1 1 then m_fair s1 sh else (nI 1, s1)
def m_rare (st : MS) (sh : Nat) (size : Int32) : Int32 × MS :=
  let s1 := mtr st (st.2.2.1 + 100)
  if s1.1 1 2 ≤ s1.1 11 (7 * sh) then m_long s1 sh size else (nI 1, s1)
def m_weight (st : MS) (sh : Nat) (size : Int32) (torn : Bool) : Int32 × MS :=
  if torn = true then
    let s1 := mtr st (st.2.2.1 + 1000)
    if s1.1 1 3 = 0 then (nI 0, m_inc s1 11 (7 * sh + 4)) else m_rare s1 sh size
  else m_rare st sh size
section MC1
variable (l : Launch) {D : va_G} {g : Nat → Nat} {K : Nat → ClassId}
theorem mc_in (st : MS) (a b c : Int32) : kM l yX2_in cX2_in 3 (some .boolean) 0 0 0 0 D (mty K) (mw g K) [.int a, .int b, .int c] st (fun v u => v = some (.int (bI (inR a b c))) ∧ u = st) := by
  refine kM_intro (by decide) (Nat.le_of_ble_eq_true rfl) ?_
  intro p e s m below meth c' A ls F hA hI hl
  obtain ⟨hx, hb, hr, hml, hown, hts, hlk, hK, hnm⟩ := id F
  have hl : lv_has ls 3 [(0, .int a), (1, .int b), (2, .int c)] := hl
  refine lv_iload_n hx hb dX2_in_0 rfl (lv_at hl 0 rfl) ?_
  refine lv_iload_n hx hb dX2_in_1 rfl (lv_at hl 1 rfl) ?_
  refine lv_icmp_lt (tgt := 14) hx hb dX2_in_2 (by decide) (fun c2 => ?_) (fun c2 => ?_)
  ·
    refine lv_iconst (v := nI 0) hx hb dX2_in_14 (by decide) ?_
    exact kret_z F hI dX2_in_15 (by decide) (⟨by simp [inR, bI, c2], rfl⟩)
  ·
    refine lv_iload_n hx hb dX2_in_5 rfl (lv_at hl 0 rfl) ?_
    refine lv_iload_n hx hb dX2_in_6 rfl (lv_at hl 2 rfl) ?_
    refine lv_icmp_gt (tgt := 14) hx hb dX2_in_7 (by decide) (fun c7 => ?_) (fun c7 => ?_)
    ·
      refine lv_iconst (v := nI 0) hx hb dX2_in_14 (by decide) ?_
      exact kret_z F hI dX2_in_15 (by decide) (⟨by simp [inR, bI, c2, c7], rfl⟩)
    ·
      refine lv_iconst (v := nI 1) hx hb dX2_in_10 (by decide) ?_
      refine lv_goto (tgt := 15) hx hb dX2_in_11 (by decide) ?_
      exact kret_z F hI dX2_in_15 (by decide) (⟨by simp [inR, bI, c2, c7], rfl⟩)
theorem mc_homeOf (st : MS) (n : Nat) (hn : n < 100) : kM l yX2_homeOf cX2_homeOf 6 (some .int) 0 0 0 0 D (mty K) (mw g K) [.ref (g 0), .int (nI n)] st (fun v u => v = some (.int (hm (m_up st) n)) ∧ u = st) := by
  refine kM_intro (by decide) (Nat.le_of_ble_eq_true rfl) ?_
  intro p e s m below meth c A ls F hA hI hl
  obtain ⟨hx, hb, hr, hml, hown, hts, hlk, hK, hnm⟩ := id F
  have hl : lv_has ls 6 [(0, .ref (g 0)), (1, .int (nI n))] := hl
  refine lv_bipush (v := -9) hx hb dX2_homeOf_0 (by decide) ?_
  refine lv_istore_n (lv' := [(2, .int _), (0, .ref _), (1, .int _)]) hx hb dX2_homeOf_2 rfl hl (by decide) rfl (fun ls hl => ?_)
  refine lv_iconst (v := -1) hx hb dX2_homeOf_3 (by decide) ?_
  refine lv_istore_n (lv' := [(3, .int _), (2, .int _), (0, .ref _), (1, .int _)]) hx hb dX2_homeOf_4 rfl hl (by decide) rfl (fun ls hl => ?_)
  refine lv_iconst (v := nI 0) hx hb dX2_homeOf_5 (by decide) ?_
  refine lv_istore (lv' := [(4, .int _), (3, .int _), (2, .int _), (0, .ref _), (1, .int _)]) hx hb dX2_homeOf_6 hl (by decide) rfl (fun ls hl => ?_)
  refine wloop (σ := Nat × Nat × Int32 × Int32) (fun x => x.1) (fun x H locs ls => x.2.1 + x.1 = 4 ∧ hmL (m_up st) n x.1 x.2.1 x.2.2.1 x.2.2.2 = hm (m_up st) n ∧ kI D (mw g K) A s.heap st H locs ∧ lv_has ls 6 [(4, .int (nI x.2.1)), (3, .int x.2.2.2), (2, .int x.2.2.1), (0, .ref (g 0)), (1, .int (nI n))]) ?_ (4, 0, -9, -1) _ _ _ ⟨rfl, rfl, hI, lv_sub hl [0, 1, 2, 3, 4] rfl⟩
  rintro ⟨f, k, b, t⟩ H locs ls ⟨hk, he, hI, hl⟩ ih
  dsimp only at hk he hI hl ih
  refine lv_iload hx hb dX2_homeOf_8 (lv_at hl 0 rfl) ?_
  refine lv_iconst (v := nI 4) hx hb dX2_homeOf_10 (by decide) ?_
  refine lv_icmp_ge (tgt := 56) hx hb dX2_homeOf_11 (by decide) (fun c11 => ?_) (fun c11 => ?_)
  ·
    rw [nI_leI (by omega) (by omega)] at c11
    obtain rfl : f = 0 := by omega
    refine lv_iload_n hx hb dX2_homeOf_56 rfl (lv_at hl 2 rfl) ?_
    exact kret_i F hI dX2_homeOf_57 (⟨by rw [← he]; rfl, rfl⟩)
  ·
    rw [nI_leI (by omega) (by omega)] at c11
    obtain ⟨f, rfl⟩ : ∃ f', f = f' + 1 := ⟨f - 1, by omega⟩
    refine lv_bipush (v := nI 7) hx hb dX2_homeOf_14 (by decide) ?_
    refine lv_iload_n hx hb dX2_homeOf_16 rfl (lv_at hl 4 rfl) ?_
    refine lv_imul hx hb dX2_homeOf_17 ?_
    refine ktop (y := nI (7 * n)) (pk_mul _ _) ?_
    refine lv_iconst (v := nI 5) hx hb dX2_homeOf_18 (by decide) ?_
    refine lv_iload hx hb dX2_homeOf_19 (lv_at hl 0 rfl) ?_
    refine lv_imul hx hb dX2_homeOf_21 ?_
    refine ktop (y := nI (5 * k)) (pk_mul _ _) ?_
    refine lv_iadd hx hb dX2_homeOf_22 ?_
    refine ktop (y := nI ((7 * n) + (5 * k))) (nI_add _ _) ?_
    refine lv_bipush (v := nI 11) hx hb dX2_homeOf_23 (by decide) ?_
    refine lv_irem hx hb dX2_homeOf_25 (by decide) ?_
    refine ktop (y := nI ((7 * n + 5 * k) % 11)) (by exact pk_rem (by omega) (by omega) (by omega)) ?_
    refine lv_istore (lv' := [(5, .int _), (4, .int _), (3, .int _), (2, .int _), (0, .ref _), (1, .int _)]) hx hb dX2_homeOf_26 hl (by decide) rfl (fun ls hl => ?_)
    refine lv_aload_n hx hb dX2_homeOf_28 rfl (lv_at hl 4 rfl) ?_
    refine m_get F hI 3 (by decide) rfl flX2_7 dX2_homeOf_29 ?_
    refine lv_iload hx hb dX2_homeOf_32 (lv_at hl 1 rfl) ?_
    refine m_zald F hI  0 (show k < 4 by omega) rfl dX2_homeOf_34 ?_
    refine lv_if_ne (tgt := 50) hx hb dX2_homeOf_35 (by decide) (fun c35 => ?_) (fun c35 => ?_)
    ·
      refine lv_iinc (v := nI (k + 1)) (lv' := [(4, .int _), (5, .int _), (3, .int _), (2, .int _), (0, .ref _), (1, .int _)]) hx hb dX2_homeOf_50 hl (k := 1) rfl (kinc _ 1) (by decide) rfl (fun ls hl => ?_)
      refine lv_goto (tgt := 8) hx hb dX2_homeOf_53 (by decide) ?_
      exact ih (f, k + 1, b, t) _ _ _ (by show f < f + 1; omega) ⟨by show k + 1 + f = 4; omega, by rw [← he]; simp [hmL, m_up, c35], hI, lv_sub hl [0, 2, 3, 4, 5] rfl⟩
    ·
      refine lv_iload hx hb dX2_homeOf_38 (lv_at hl 0 rfl) ?_
      refine lv_iload_n hx hb dX2_homeOf_40 rfl (lv_at hl 2 rfl) ?_
      refine lv_icmp_le (tgt := 50) hx hb dX2_homeOf_41 (by decide) (fun c41 => ?_) (fun c41 => ?_)
      ·
        refine lv_iinc (v := nI (k + 1)) (lv' := [(4, .int _), (5, .int _), (3, .int _), (2, .int _), (0, .ref _), (1, .int _)]) hx hb dX2_homeOf_50 hl (k := 1) rfl (kinc _ 1) (by decide) rfl (fun ls hl => ?_)
        refine lv_goto (tgt := 8) hx hb dX2_homeOf_53 (by decide) ?_
        exact ih (f, k + 1, b, t) _ _ _ (by show f < f + 1; omega) ⟨by show k + 1 + f = 4; omega, by rw [← he]; simp [hmL, m_up, c35, c41], hI, lv_sub hl [0, 2, 3, 4, 5] rfl⟩
      ·
        refine lv_iload hx hb dX2_homeOf_44 (lv_at hl 1 rfl) ?_
        refine lv_istore_n (lv' := [(2, .int _), (5, .int _), (4, .int _), (3, .int _), (0, .ref _), (1, .int _)]) hx hb dX2_homeOf_46 rfl hl (by decide) rfl (fun ls hl => ?_)
        refine lv_iload hx hb dX2_homeOf_47 (lv_at hl 1 rfl) ?_
        refine lv_istore_n (lv' := [(3, .int _), (2, .int _), (5, .int _), (4, .int _), (0, .ref _), (1, .int _)]) hx hb dX2_homeOf_49 rfl hl (by decide) rfl (fun ls hl => ?_)
        refine lv_iinc (v := nI (k + 1)) (lv' := [(4, .int _), (3, .int _), (2, .int _), (5, .int _), (0, .ref _), (1, .int _)]) hx hb dX2_homeOf_50 hl (k := 3) rfl (kinc _ 1) (by decide) rfl (fun ls hl => ?_)
        refine lv_goto (tgt := 8) hx hb dX2_homeOf_53 (by decide) ?_
        exact ih (f, k + 1, nI k, nI ((7 * n + 5 * k) % 11)) _ _ _ (by show f < f + 1; omega) ⟨by show k + 1 + f = 4; omega, by rw [← he]; simp [hmL, m_up, c35, c41], hI, lv_sub hl [0, 1, 2, 4, 5] rfl⟩
theorem mc_known (st : MS) (n : Nat) (hn : n < 100) : kM l yX2_isKnown cX2_isKnown 2 (some .boolean) 0 0 0 0 D (mty K) (mw g K) [.ref (g 0), .int (nI n)] st (fun v u => v = some (.int (bI (m_known st n))) ∧ u = st) := by
  refine kM_intro (by decide) (Nat.le_of_ble_eq_true rfl) ?_
  intro p e s m below meth c A ls F hA hI hl
  obtain ⟨hx, hb, hr, hml, hown, hts, hlk, hK, hnm⟩ := id F
  have hl : lv_has ls 2 [(0, .ref (g 0)), (1, .int (nI n))] := hl
  refine lv_aload_n hx hb dX2_isKnown_0 rfl (lv_at hl 0 rfl) ?_
  refine m_get F hI 11 (by decide) rfl flX2_35 dX2_isKnown_1 ?_
  refine lv_iload_n hx hb dX2_isKnown_4 rfl (lv_at hl 1 rfl) ?_
  refine m_ald F hI  8 (show n < 100 by omega) rfl dX2_isKnown_5 ?_
  refine lv_if_le (tgt := 29) hx hb dX2_isKnown_6 (by decide) (fun c6 => ?_) (fun c6 => ?_)
  ·
    refine lv_iconst (v := nI 0) hx hb dX2_isKnown_29 (by decide) ?_
    exact kret_z F hI dX2_isKnown_30 (by decide) (⟨by simp [m_known, bI, c6], rfl⟩)
  ·
    refine lv_aload_n hx hb dX2_isKnown_9 rfl (lv_at hl 0 rfl) ?_
    refine m_get F hI 1 (by decide) rfl flX2_79 dX2_isKnown_10 ?_
    refine lv_aload_n hx hb dX2_isKnown_13 rfl (lv_at hl 0 rfl) ?_
    refine m_get F hI 12 (by decide) rfl flX2_38 dX2_isKnown_14 ?_
    refine lv_iload_n hx hb dX2_isKnown_17 rfl (lv_at hl 1 rfl) ?_
    refine m_ald F hI  9 (show n < 100 by omega) rfl dX2_isKnown_18 ?_
    refine lv_isub hx hb dX2_isKnown_19 ?_
    refine lv_bipush (v := nI 50) hx hb dX2_isKnown_20 (by decide) ?_
    refine lv_icmp_ge (tgt := 29) hx hb dX2_isKnown_22 (by decide) (fun c22 => ?_) (fun c22 => ?_)
    ·
      refine lv_iconst (v := nI 0) hx hb dX2_isKnown_29 (by decide) ?_
      exact kret_z F hI dX2_isKnown_30 (by decide) (⟨by simp [m_known, bI, c6, c22], rfl⟩)
    ·
      refine lv_iconst (v := nI 1) hx hb dX2_isKnown_25 (by decide) ?_
      refine lv_goto (tgt := 30) hx hb dX2_isKnown_26 (by decide) ?_
      exact kret_z F hI dX2_isKnown_30 (by decide) (⟨by simp [m_known, bI, c6, c22], rfl⟩)
theorem mc_keptAt (st : MS) (n : Nat) (hn : n < 100) (hkm : st.2.2.2 ≤ 20) : kM l yX2_keptAt cX2_keptAt 3 (some .int) 0 0 0 0 D (mty K) (mw g K) [.ref (g 0), .int (nI n)] st (fun v u => v = some (.int (m_keptAt st n)) ∧ u = st) := by
  refine kM_intro (by decide) (Nat.le_of_ble_eq_true rfl) ?_
  intro p e s m below meth c A ls F hA hI hl
  obtain ⟨hx, hb, hr, hml, hown, hts, hlk, hK, hnm⟩ := id F
  have hl : lv_has ls 3 [(0, .ref (g 0)), (1, .int (nI n))] := hl
  refine lv_iconst (v := nI 0) hx hb dX2_keptAt_0 (by decide) ?_
  refine lv_istore_n (lv' := [(2, .int _), (0, .ref _), (1, .int _)]) hx hb dX2_keptAt_1 rfl hl (by decide) rfl (fun ls hl => ?_)
  refine wloop (σ := Nat × Nat) (fun x => x.1) (fun x H locs ls => x.2 + x.1 = st.2.2.2 ∧ m_keptL st n x.1 x.2 = m_keptAt st n ∧ kI D (mw g K) A s.heap st H locs ∧ lv_has ls 3 [(2, .int (nI x.2)), (0, .ref (g 0)), (1, .int (nI n))]) ?_ (st.2.2.2, 0) _ _ _ ⟨Nat.zero_add _, rfl, hI, lv_sub hl [0, 1, 2] rfl⟩
  rintro ⟨f, i⟩ H locs ls ⟨hk, he, hI, hl⟩ ih
  dsimp only at hk he hI hl ih
  refine lv_iload_n hx hb dX2_keptAt_2 rfl (lv_at hl 0 rfl) ?_
  refine lv_aload_n hx hb dX2_keptAt_3 rfl (lv_at hl 1 rfl) ?_
  refine m_get F hI 14 (by decide) rfl flX2_82 dX2_keptAt_4 ?_
  refine lv_icmp_ge (tgt := 39) hx hb dX2_keptAt_7 (by decide) (fun c7 => ?_) (fun c7 => ?_)
  ·
    rw [nI_leI (by omega) (by omega)] at c7
    obtain rfl : f = 0 := by omega
    refine lv_bipush (v := -9) hx hb dX2_keptAt_39 (by decide) ?_
    exact kret_i F hI dX2_keptAt_41 (⟨by rw [← he]; rfl, rfl⟩)
  ·
    rw [nI_leI (by omega) (by omega)] at c7
    obtain ⟨f, rfl⟩ : ∃ f', f = f' + 1 := ⟨f - 1, by omega⟩
    refine lv_aload_n hx hb dX2_keptAt_10 rfl (lv_at hl 1 rfl) ?_
    refine m_get F hI 13 (by decide) rfl flX2_41 dX2_keptAt_11 ?_
    refine lv_bipush (v := nI 8) hx hb dX2_keptAt_14 (by decide) ?_
    refine lv_iload_n hx hb dX2_keptAt_16 rfl (lv_at hl 0 rfl) ?_
    refine lv_imul hx hb dX2_keptAt_17 ?_
    refine ktop (y := nI (8 * i)) (pk_mul _ _) ?_
    refine lv_bipush (v := nI 7) hx hb dX2_keptAt_18 (by decide) ?_
    refine lv_iadd hx hb dX2_keptAt_20 ?_
    refine ktop (y := nI ((8 * i) + 7)) (nI_add _ _) ?_
    refine m_ald F hI  10 (show ((8 * i) + 7) < 160 by omega) rfl dX2_keptAt_21 ?_
    refine lv_aload_n hx hb dX2_keptAt_22 rfl (lv_at hl 1 rfl) ?_
    refine m_get F hI 11 (by decide) rfl flX2_35 dX2_keptAt_23 ?_
    refine lv_iload_n hx hb dX2_keptAt_26 rfl (lv_at hl 2 rfl) ?_
    refine m_ald F hI  8 (show n < 100 by omega) rfl dX2_keptAt_27 ?_
    refine lv_icmp_ne (tgt := 33) hx hb dX2_keptAt_28 (by decide) (fun c28 => ?_) (fun c28 => ?_)
    ·
      refine lv_iinc (v := nI (i + 1)) (lv' := [(2, .int _), (0, .ref _), (1, .int _)]) hx hb dX2_keptAt_33 hl (k := 0) rfl (kinc _ 1) (by decide) rfl (fun ls hl => ?_)
      refine lv_goto (tgt := 2) hx hb dX2_keptAt_36 (by decide) ?_
      exact ih (f, i + 1) _ _ _ (by show f < f + 1; omega) ⟨by show i + 1 + f = _; omega, by rw [← he]; simp [m_keptL, c28], hI, lv_sub hl [0, 1, 2] rfl⟩
    ·
      refine lv_iload_n hx hb dX2_keptAt_31 rfl (lv_at hl 0 rfl) ?_
      exact kret_i F hI dX2_keptAt_32 (⟨by rw [← he]; simp [m_keptL, c28], rfl⟩)
theorem mc_waitingMany (st : MS) : kM l yX2_waitingMany cX2_waitingMany 3 (some .int) 0 0 0 0 D (mty K) (mw g K) [.ref (g 0)] st (fun v u => v = some (.int (m_wm st)) ∧ u = st) := by
  refine kM_intro (by decide) (Nat.le_of_ble_eq_true rfl) ?_
  intro p e s m below meth c A ls F hA hI hl
  obtain ⟨hx, hb, hr, hml, hown, hts, hlk, hK, hnm⟩ := id F
  have hl : lv_has ls 3 [(0, .ref (g 0))] := hl
  refine lv_iconst (v := nI 0) hx hb dX2_waitingMany_0 (by decide) ?_
  refine lv_istore_n (lv' := [(1, .int _), (0, .ref _)]) hx hb dX2_waitingMany_1 rfl hl (by decide) rfl (fun ls hl => ?_)
  refine lv_iconst (v := nI 0) hx hb dX2_waitingMany_2 (by decide) ?_
  refine lv_istore_n (lv' := [(2, .int _), (1, .int _), (0, .ref _)]) hx hb dX2_waitingMany_3 rfl hl (by decide) rfl (fun ls hl => ?_)
  refine wloop (σ := Nat × Nat × Int32) (fun x => x.1) (fun x H locs ls => x.2.1 + x.1 = 100 ∧ m_wmL st x.1 x.2.1 x.2.2 = m_wm st ∧ kI D (mw g K) A s.heap st H locs ∧ lv_has ls 3 [(2, .int (nI x.2.1)), (1, .int x.2.2), (0, .ref (g 0))]) ?_ (100, 0, nI 0) _ _ _ ⟨rfl, rfl, hI, lv_sub hl [0, 1, 2] rfl⟩
  rintro ⟨f, i, v⟩ H locs ls ⟨hk, he, hI, hl⟩ ih
  dsimp only at hk he hI hl ih
  refine lv_iload_n hx hb dX2_waitingMany_4 rfl (lv_at hl 0 rfl) ?_
  refine lv_bipush (v := nI 100) hx hb dX2_waitingMany_5 (by decide) ?_
  refine lv_icmp_ge (tgt := 35) hx hb dX2_waitingMany_7 (by decide) (fun c7 => ?_) (fun c7 => ?_)
  ·
    rw [nI_leI (by omega) (by omega)] at c7
    obtain rfl : f = 0 := by omega
    refine lv_iload_n hx hb dX2_waitingMany_35 rfl (lv_at hl 1 rfl) ?_
    exact kret_i F hI dX2_waitingMany_36 (⟨by rw [← he]; rfl, rfl⟩)
  ·
    rw [nI_leI (by omega) (by omega)] at c7
    obtain ⟨f, rfl⟩ : ∃ f', f = f' + 1 := ⟨f - 1, by omega⟩
    refine lv_iload_n hx hb dX2_waitingMany_10 rfl (lv_at hl 1 rfl) ?_
    refine lv_aload_n hx hb dX2_waitingMany_11 rfl (lv_at hl 2 rfl) ?_
    refine m_get F hI 5 (by decide) rfl flX2_17 dX2_waitingMany_12 ?_
    refine lv_iload_n hx hb dX2_waitingMany_15 rfl (lv_at hl 0 rfl) ?_
    refine m_ald F hI  2 (show i < 100 by omega) rfl dX2_waitingMany_16 ?_
    refine lv_bipush (v := -9) hx hb dX2_waitingMany_17 (by decide) ?_
    refine lv_icmp_ne (tgt := 26) hx hb dX2_waitingMany_19 (by decide) (fun c19 => ?_) (fun c19 => ?_)
    ·
      refine lv_iconst (v := nI 1) hx hb dX2_waitingMany_26 (by decide) ?_
      refine lv_iadd hx hb dX2_waitingMany_27 ?_
      refine lv_istore_n (lv' := [(1, .int _), (2, .int _), (0, .ref _)]) hx hb dX2_waitingMany_28 rfl hl (by decide) rfl (fun ls hl => ?_)
      refine lv_iinc (v := nI (i + 1)) (lv' := [(2, .int _), (1, .int _), (0, .ref _)]) hx hb dX2_waitingMany_29 hl (k := 1) rfl (kinc _ 1) (by decide) rfl (fun ls hl => ?_)
      refine lv_goto (tgt := 4) hx hb dX2_waitingMany_32 (by decide) ?_
      exact ih (f, i + 1, _) _ _ _ (by show f < f + 1; omega) ⟨by show i + 1 + f = _; omega, by rw [← he]; simp [m_wmL, c19], hI, lv_sub hl [0, 1, 2] rfl⟩
    ·
      refine lv_iconst (v := nI 0) hx hb dX2_waitingMany_22 (by decide) ?_
      refine lv_goto (tgt := 27) hx hb dX2_waitingMany_23 (by decide) ?_
      refine lv_iadd hx hb dX2_waitingMany_27 ?_
      refine lv_istore_n (lv' := [(1, .int _), (2, .int _), (0, .ref _)]) hx hb dX2_waitingMany_28 rfl hl (by decide) rfl (fun ls hl => ?_)
      refine lv_iinc (v := nI (i + 1)) (lv' := [(2, .int _), (1, .int _), (0, .ref _)]) hx hb dX2_waitingMany_29 hl (k := 1) rfl (kinc _ 1) (by decide) rfl (fun ls hl => ?_)
      refine lv_goto (tgt := 4) hx hb dX2_waitingMany_32 (by decide) ?_
      exact ih (f, i + 1, _) _ _ _ (by show f < f + 1; omega) ⟨by show i + 1 + f = _; omega, by rw [← he]; simp [m_wmL, c19], hI, lv_sub hl [0, 1, 2] rfl⟩
theorem mc_weightOf (st : MS) (sh : Nat) (hs : sh < 5) (z : Int32) (tn : Bool) : kM l yX2_weightOf cX2_weightOf 4 (some .int) 0 0 0 0 D (mty K) (mw g K) [.ref (g 0), .int (nI sh), .int z, .int (bI tn)] st (fun v u => v = some (.int (m_weight st sh z tn).1) ∧ u = (m_weight st sh z tn).2) := by
  refine kM_intro (by decide) (Nat.le_of_ble_eq_true rfl) ?_
  intro p e s m below meth c A ls F hA hI hl
  obtain ⟨hx, hb, hr, hml, hown, hts, hlk, hK, hnm⟩ := id F
  have hl : lv_has ls 4 [(0, .ref (g 0)), (1, .int (nI sh)), (2, .int z), (3, .int (bI tn))] := hl
  cases tn
  · have hl := hl
    refine lv_iload_n hx hb dX2_weightOf_0 rfl (lv_at hl 3 rfl) ?_
    refine lv_if_eq (tgt := 42) hx hb dX2_weightOf_1 (by decide) (fun c1 => ?_) (fun c1 => absurd c1 ((fun h => h rfl)))
    refine lv_aload_n hx hb dX2_weightOf_42 rfl (lv_at hl 0 rfl) ?_
    refine lv_dup hx hb dX2_weightOf_43 rfl ?_
    refine m_get F hI 2 (by decide) rfl flX2_65 dX2_weightOf_44 ?_
    refine lv_ldc2 (v := 100) hx hb hown (hts _ clX2_71) dX2_weightOf_47 ?_
    refine lv_ladd hx hb dX2_weightOf_50 ?_
    refine m_putTr F hI flX2_65 dX2_weightOf_51 (fun H locs hI => ?_)
    refine lv_aload_n hx hb dX2_weightOf_54 rfl (lv_at hl 0 rfl) ?_
    refine m_get F hI 15 (by decide) rfl flX2_44 dX2_weightOf_55 ?_
    refine lv_bipush (v := nI 7) hx hb dX2_weightOf_58 (by decide) ?_
    refine lv_iload_n hx hb dX2_weightOf_60 rfl (lv_at hl 1 rfl) ?_
    refine lv_imul hx hb dX2_weightOf_61 ?_
    refine ktop (y := nI (7 * sh)) (pk_mul _ _) ?_
    refine m_ald F hI  11 (show (7 * sh) < 35 by omega) rfl dX2_weightOf_62 ?_
    refine lv_aload_n hx hb dX2_weightOf_63 rfl (lv_at hl 0 rfl) ?_
    refine m_get F hI 4 (by decide) rfl flX2_13 dX2_weightOf_64 ?_
    refine lv_iconst (v := nI 2) hx hb dX2_weightOf_67 (by decide) ?_
    refine m_ald F hI  1 (show 2 < 6 by omega) rfl dX2_weightOf_68 ?_
    refine lv_icmp_ge (tgt := 74) hx hb dX2_weightOf_69 (by decide) (fun c69 => ?_) (fun c69 => ?_)
    ·
      refine lv_aload_n hx hb dX2_weightOf_74 rfl (lv_at hl 0 rfl) ?_
      refine lv_dup hx hb dX2_weightOf_75 rfl ?_
      refine m_get F hI 2 (by decide) rfl flX2_65 dX2_weightOf_76 ?_
      refine lv_ldc2 (v := 10) hx hb hown (hts _ clX2_73) dX2_weightOf_79 ?_
      refine lv_ladd hx hb dX2_weightOf_82 ?_
      refine m_putTr F hI flX2_65 dX2_weightOf_83 (fun H locs hI => ?_)
      refine lv_iload_n hx hb dX2_weightOf_86 rfl (lv_at hl 2 rfl) ?_
      refine lv_aload_n hx hb dX2_weightOf_87 rfl (lv_at hl 0 rfl) ?_
      refine m_get F hI 4 (by decide) rfl flX2_13 dX2_weightOf_88 ?_
      refine lv_iconst (v := nI 1) hx hb dX2_weightOf_91 (by decide) ?_
      refine m_ald F hI  1 (show 1 < 6 by omega) rfl dX2_weightOf_92 ?_
      refine lv_icmp_lt (tgt := 98) hx hb dX2_weightOf_93 (by decide) (fun c93 => ?_) (fun c93 => ?_)
      ·
        refine lv_aload_n hx hb dX2_weightOf_98 rfl (lv_at hl 0 rfl) ?_
        refine lv_dup hx hb dX2_weightOf_99 rfl ?_
        refine m_get F hI 2 (by decide) rfl flX2_65 dX2_weightOf_100 ?_
        refine lv_lconst (v := 1) hx hb dX2_weightOf_103 (by decide) ?_
        refine lv_ladd hx hb dX2_weightOf_104 ?_
        refine m_putTr F hI flX2_65 dX2_weightOf_105 (fun H locs hI => ?_)
        refine lv_aload_n hx hb dX2_weightOf_108 rfl (lv_at hl 0 rfl) ?_
        refine m_get F hI 15 (by decide) rfl flX2_44 dX2_weightOf_109 ?_
        refine lv_bipush (v := nI 7) hx hb dX2_weightOf_112 (by decide) ?_
        refine lv_iload_n hx hb dX2_weightOf_114 rfl (lv_at hl 1 rfl) ?_
        refine lv_imul hx hb dX2_weightOf_115 ?_
        refine ktop (y := nI (7 * sh)) (pk_mul _ _) ?_
        refine lv_iconst (v := nI 5) hx hb dX2_weightOf_116 (by decide) ?_
        refine lv_iadd hx hb dX2_weightOf_117 ?_
        refine ktop (y := nI ((7 * sh) + 5)) (nI_add _ _) ?_
        refine lv_dup2_11 hx hb dX2_weightOf_118 rfl rfl ?_
        refine m_ald F hI  11 (show ((7 * sh) + 5) < 35 by omega) rfl dX2_weightOf_119 ?_
        refine lv_iconst (v := nI 1) hx hb dX2_weightOf_120 (by decide) ?_
        refine lv_iadd hx hb dX2_weightOf_121 ?_
        refine m_ast F hI 11 (show ((7 * sh) + 5) < 35 by omega) rfl dX2_weightOf_122 (fun H locs hI => ?_)
        refine lv_aload_n hx hb dX2_weightOf_123 rfl (lv_at hl 0 rfl) ?_
        refine m_get F hI 15 (by decide) rfl flX2_44 dX2_weightOf_124 ?_
        refine lv_bipush (v := nI 7) hx hb dX2_weightOf_127 (by decide) ?_
        refine lv_iload_n hx hb dX2_weightOf_129 rfl (lv_at hl 1 rfl) ?_
        refine lv_imul hx hb dX2_weightOf_130 ?_
        refine ktop (y := nI (7 * sh)) (pk_mul _ _) ?_
        refine lv_iconst (v := nI 5) hx hb dX2_weightOf_131 (by decide) ?_
        refine lv_iadd hx hb dX2_weightOf_132 ?_
        refine ktop (y := nI ((7 * sh) + 5)) (nI_add _ _) ?_
        refine m_ald F hI  11 (show ((7 * sh) + 5) < 35 by omega) rfl dX2_weightOf_133 ?_
        refine lv_aload_n hx hb dX2_weightOf_134 rfl (lv_at hl 0 rfl) ?_
        refine m_get F hI 4 (by decide) rfl flX2_13 dX2_weightOf_135 ?_
        refine lv_iconst (v := nI 0) hx hb dX2_weightOf_138 (by decide) ?_
        refine m_ald F hI  1 (show 0 < 6 by omega) rfl dX2_weightOf_139 ?_
        refine lv_icmp_ge (tgt := 145) hx hb dX2_weightOf_140 (by decide) (fun c140 => ?_) (fun c140 => ?_)
        ·
          refine lv_aload_n hx hb dX2_weightOf_145 rfl (lv_at hl 0 rfl) ?_
          refine m_get F hI 15 (by decide) rfl flX2_44 dX2_weightOf_146 ?_
          refine lv_bipush (v := nI 7) hx hb dX2_weightOf_149 (by decide) ?_
          refine lv_iload_n hx hb dX2_weightOf_151 rfl (lv_at hl 1 rfl) ?_
          refine lv_imul hx hb dX2_weightOf_152 ?_
          refine ktop (y := nI (7 * sh)) (pk_mul _ _) ?_
          refine lv_iconst (v := nI 5) hx hb dX2_weightOf_153 (by decide) ?_
          refine lv_iadd hx hb dX2_weightOf_154 ?_
          refine ktop (y := nI ((7 * sh) + 5)) (nI_add _ _) ?_
          refine lv_iconst (v := nI 0) hx hb dX2_weightOf_155 (by decide) ?_
          refine m_ast F hI 11 (show ((7 * sh) + 5) < 35 by omega) rfl dX2_weightOf_156 (fun H locs hI => ?_)
          refine lv_aload_n hx hb dX2_weightOf_157 rfl (lv_at hl 0 rfl) ?_
          refine m_get F hI 4 (by decide) rfl flX2_13 dX2_weightOf_158 ?_
          refine lv_iconst (v := nI 0) hx hb dX2_weightOf_161 (by decide) ?_
          refine m_ald F hI  1 (show 0 < 6 by omega) rfl dX2_weightOf_162 ?_
          exact kret_i F hI dX2_weightOf_163 (⟨by simp [m_weight, m_rare, m_long, m_fair, m_inc, c69, c93, c140]; rfl, by simp [m_weight, m_rare, m_long, m_fair, m_inc, c69, c93, c140]⟩)
        ·
          refine lv_iconst (v := nI 0) hx hb dX2_weightOf_143 (by decide) ?_
          exact kret_i F hI dX2_weightOf_144 (⟨by simp [m_weight, m_rare, m_long, m_fair, m_inc, c69, c93, c140], by simp [m_weight, m_rare, m_long, m_fair, m_inc, c69, c93, c140]⟩)
      ·
        refine lv_iconst (v := nI 1) hx hb dX2_weightOf_96 (by decide) ?_
        exact kret_i F hI dX2_weightOf_97 (⟨by simp [m_weight, m_rare, m_long, c69, c93], by simp [m_weight, m_rare, m_long, c69, c93]⟩)
    ·
      refine lv_iconst (v := nI 1) hx hb dX2_weightOf_72 (by decide) ?_
      exact kret_i F hI dX2_weightOf_73 (⟨by simp [m_weight, m_rare, c69], by simp [m_weight, m_rare, c69]⟩)
  · have hl := hl
    refine lv_iload_n hx hb dX2_weightOf_0 rfl (lv_at hl 3 rfl) ?_
    refine lv_if_eq (tgt := 42) hx hb dX2_weightOf_1 (by decide) (fun c1 => absurd c1 ((by decide))) (fun c1 => ?_)
    refine lv_aload_n hx hb dX2_weightOf_4 rfl (lv_at hl 0 rfl) ?_
    refine lv_dup hx hb dX2_weightOf_5 rfl ?_
    refine m_get F hI 2 (by decide) rfl flX2_65 dX2_weightOf_6 ?_
    refine lv_ldc2 (v := 1000) hx hb hown (hts _ clX2_69) dX2_weightOf_9 ?_
    refine lv_ladd hx hb dX2_weightOf_12 ?_
    refine m_putTr F hI flX2_65 dX2_weightOf_13 (fun H locs hI => ?_)
    refine lv_aload_n hx hb dX2_weightOf_16 rfl (lv_at hl 0 rfl) ?_
    refine m_get F hI 4 (by decide) rfl flX2_13 dX2_weightOf_17 ?_
    refine lv_iconst (v := nI 3) hx hb dX2_weightOf_20 (by decide) ?_
    refine m_ald F hI  1 (show 3 < 6 by omega) rfl dX2_weightOf_21 ?_
    refine lv_if_ne (tgt := 42) hx hb dX2_weightOf_22 (by decide) (fun c22 => ?_) (fun c22 => ?_)
    ·
      refine lv_aload_n hx hb dX2_weightOf_42 rfl (lv_at hl 0 rfl) ?_
      refine lv_dup hx hb dX2_weightOf_43 rfl ?_
      refine m_get F hI 2 (by decide) rfl flX2_65 dX2_weightOf_44 ?_
      refine lv_ldc2 (v := 100) hx hb hown (hts _ clX2_71) dX2_weightOf_47 ?_
      refine lv_ladd hx hb dX2_weightOf_50 ?_
      refine m_putTr F hI flX2_65 dX2_weightOf_51 (fun H locs hI => ?_)
      refine lv_aload_n hx hb dX2_weightOf_54 rfl (lv_at hl 0 rfl) ?_
      refine m_get F hI 15 (by decide) rfl flX2_44 dX2_weightOf_55 ?_
      refine lv_bipush (v := nI 7) hx hb dX2_weightOf_58 (by decide) ?_
      refine lv_iload_n hx hb dX2_weightOf_60 rfl (lv_at hl 1 rfl) ?_
      refine lv_imul hx hb dX2_weightOf_61 ?_
      refine ktop (y := nI (7 * sh)) (pk_mul _ _) ?_
      refine m_ald F hI  11 (show (7 * sh) < 35 by omega) rfl dX2_weightOf_62 ?_
      refine lv_aload_n hx hb dX2_weightOf_63 rfl (lv_at hl 0 rfl) ?_
      refine m_get F hI 4 (by decide) rfl flX2_13 dX2_weightOf_64 ?_
      refine lv_iconst (v := nI 2) hx hb dX2_weightOf_67 (by decide) ?_
      refine m_ald F hI  1 (show 2 < 6 by omega) rfl dX2_weightOf_68 ?_
      refine lv_icmp_ge (tgt := 74) hx hb dX2_weightOf_69 (by decide) (fun c69 => ?_) (fun c69 => ?_)
      ·
        refine lv_aload_n hx hb dX2_weightOf_74 rfl (lv_at hl 0 rfl) ?_
        refine lv_dup hx hb dX2_weightOf_75 rfl ?_
        refine m_get F hI 2 (by decide) rfl flX2_65 dX2_weightOf_76 ?_
        refine lv_ldc2 (v := 10) hx hb hown (hts _ clX2_73) dX2_weightOf_79 ?_
        refine lv_ladd hx hb dX2_weightOf_82 ?_
        refine m_putTr F hI flX2_65 dX2_weightOf_83 (fun H locs hI => ?_)
        refine lv_iload_n hx hb dX2_weightOf_86 rfl (lv_at hl 2 rfl) ?_
        refine lv_aload_n hx hb dX2_weightOf_87 rfl (lv_at hl 0 rfl) ?_
        refine m_get F hI 4 (by decide) rfl flX2_13 dX2_weightOf_88 ?_
        refine lv_iconst (v := nI 1) hx hb dX2_weightOf_91 (by decide) ?_
        refine m_ald F hI  1 (show 1 < 6 by omega) rfl dX2_weightOf_92 ?_
        refine lv_icmp_lt (tgt := 98) hx hb dX2_weightOf_93 (by decide) (fun c93 => ?_) (fun c93 => ?_)
        ·
          refine lv_aload_n hx hb dX2_weightOf_98 rfl (lv_at hl 0 rfl) ?_
          refine lv_dup hx hb dX2_weightOf_99 rfl ?_
          refine m_get F hI 2 (by decide) rfl flX2_65 dX2_weightOf_100 ?_
          refine lv_lconst (v := 1) hx hb dX2_weightOf_103 (by decide) ?_
          refine lv_ladd hx hb dX2_weightOf_104 ?_
          refine m_putTr F hI flX2_65 dX2_weightOf_105 (fun H locs hI => ?_)
          refine lv_aload_n hx hb dX2_weightOf_108 rfl (lv_at hl 0 rfl) ?_
          refine m_get F hI 15 (by decide) rfl flX2_44 dX2_weightOf_109 ?_
          refine lv_bipush (v := nI 7) hx hb dX2_weightOf_112 (by decide) ?_
          refine lv_iload_n hx hb dX2_weightOf_114 rfl (lv_at hl 1 rfl) ?_
          refine lv_imul hx hb dX2_weightOf_115 ?_
          refine ktop (y := nI (7 * sh)) (pk_mul _ _) ?_
          refine lv_iconst (v := nI 5) hx hb dX2_weightOf_116 (by decide) ?_
          refine lv_iadd hx hb dX2_weightOf_117 ?_
          refine ktop (y := nI ((7 * sh) + 5)) (nI_add _ _) ?_
          refine lv_dup2_11 hx hb dX2_weightOf_118 rfl rfl ?_
          refine m_ald F hI  11 (show ((7 * sh) + 5) < 35 by omega) rfl dX2_weightOf_119 ?_
          refine lv_iconst (v := nI 1) hx hb dX2_weightOf_120 (by decide) ?_
          refine lv_iadd hx hb dX2_weightOf_121 ?_
          refine m_ast F hI 11 (show ((7 * sh) + 5) < 35 by omega) rfl dX2_weightOf_122 (fun H locs hI => ?_)
          refine lv_aload_n hx hb dX2_weightOf_123 rfl (lv_at hl 0 rfl) ?_
          refine m_get F hI 15 (by decide) rfl flX2_44 dX2_weightOf_124 ?_
          refine lv_bipush (v := nI 7) hx hb dX2_weightOf_127 (by decide) ?_
          refine lv_iload_n hx hb dX2_weightOf_129 rfl (lv_at hl 1 rfl) ?_
          refine lv_imul hx hb dX2_weightOf_130 ?_
          refine ktop (y := nI (7 * sh)) (pk_mul _ _) ?_
          refine lv_iconst (v := nI 5) hx hb dX2_weightOf_131 (by decide) ?_
          refine lv_iadd hx hb dX2_weightOf_132 ?_
          refine ktop (y := nI ((7 * sh) + 5)) (nI_add _ _) ?_
          refine m_ald F hI  11 (show ((7 * sh) + 5) < 35 by omega) rfl dX2_weightOf_133 ?_
          refine lv_aload_n hx hb dX2_weightOf_134 rfl (lv_at hl 0 rfl) ?_
          refine m_get F hI 4 (by decide) rfl flX2_13 dX2_weightOf_135 ?_
          refine lv_iconst (v := nI 0) hx hb dX2_weightOf_138 (by decide) ?_
          refine m_ald F hI  1 (show 0 < 6 by omega) rfl dX2_weightOf_139 ?_
          refine lv_icmp_ge (tgt := 145) hx hb dX2_weightOf_140 (by decide) (fun c140 => ?_) (fun c140 => ?_)
          ·
            refine lv_aload_n hx hb dX2_weightOf_145 rfl (lv_at hl 0 rfl) ?_
            refine m_get F hI 15 (by decide) rfl flX2_44 dX2_weightOf_146 ?_
            refine lv_bipush (v := nI 7) hx hb dX2_weightOf_149 (by decide) ?_
            refine lv_iload_n hx hb dX2_weightOf_151 rfl (lv_at hl 1 rfl) ?_
            refine lv_imul hx hb dX2_weightOf_152 ?_
            refine ktop (y := nI (7 * sh)) (pk_mul _ _) ?_
            refine lv_iconst (v := nI 5) hx hb dX2_weightOf_153 (by decide) ?_
            refine lv_iadd hx hb dX2_weightOf_154 ?_
            refine ktop (y := nI ((7 * sh) + 5)) (nI_add _ _) ?_
            refine lv_iconst (v := nI 0) hx hb dX2_weightOf_155 (by decide) ?_
            refine m_ast F hI 11 (show ((7 * sh) + 5) < 35 by omega) rfl dX2_weightOf_156 (fun H locs hI => ?_)
            refine lv_aload_n hx hb dX2_weightOf_157 rfl (lv_at hl 0 rfl) ?_
            refine m_get F hI 4 (by decide) rfl flX2_13 dX2_weightOf_158 ?_
            refine lv_iconst (v := nI 0) hx hb dX2_weightOf_161 (by decide) ?_
            refine m_ald F hI  1 (show 0 < 6 by omega) rfl dX2_weightOf_162 ?_
            exact kret_i F hI dX2_weightOf_163 (⟨by simp [m_weight, m_rare, m_long, m_fair, m_inc, c22, c69, c93, c140]; rfl, by simp [m_weight, m_rare, m_long, m_fair, m_inc, c22, c69, c93, c140]⟩)
          ·
            refine lv_iconst (v := nI 0) hx hb dX2_weightOf_143 (by decide) ?_
            exact kret_i F hI dX2_weightOf_144 (⟨by simp [m_weight, m_rare, m_long, m_fair, m_inc, c22, c69, c93, c140], by simp [m_weight, m_rare, m_long, m_fair, m_inc, c22, c69, c93, c140]⟩)
        ·
          refine lv_iconst (v := nI 1) hx hb dX2_weightOf_96 (by decide) ?_
          exact kret_i F hI dX2_weightOf_97 (⟨by simp [m_weight, m_rare, m_long, c22, c69, c93], by simp [m_weight, m_rare, m_long, c22, c69, c93]⟩)
      ·
        refine lv_iconst (v := nI 1) hx hb dX2_weightOf_72 (by decide) ?_
        exact kret_i F hI dX2_weightOf_73 (⟨by simp [m_weight, m_rare, c22, c69], by simp [m_weight, m_rare, c22, c69]⟩)
    ·
      refine lv_aload_n hx hb dX2_weightOf_25 rfl (lv_at hl 0 rfl) ?_
      refine m_get F hI 15 (by decide) rfl flX2_44 dX2_weightOf_26 ?_
      refine lv_bipush (v := nI 7) hx hb dX2_weightOf_29 (by decide) ?_
      refine lv_iload_n hx hb dX2_weightOf_31 rfl (lv_at hl 1 rfl) ?_
      refine lv_imul hx hb dX2_weightOf_32 ?_
      refine ktop (y := nI (7 * sh)) (pk_mul _ _) ?_
      refine lv_iconst (v := nI 4) hx hb dX2_weightOf_33 (by decide) ?_
      refine lv_iadd hx hb dX2_weightOf_34 ?_
      refine ktop (y := nI ((7 * sh) + 4)) (nI_add _ _) ?_
      refine lv_dup2_11 hx hb dX2_weightOf_35 rfl rfl ?_
      refine m_ald F hI  11 (show ((7 * sh) + 4) < 35 by omega) rfl dX2_weightOf_36 ?_
      refine lv_iconst (v := nI 1) hx hb dX2_weightOf_37 (by decide) ?_
      refine lv_iadd hx hb dX2_weightOf_38 ?_
      refine m_ast F hI 11 (show ((7 * sh) + 4) < 35 by omega) rfl dX2_weightOf_39 (fun H locs hI => ?_)
      refine lv_iconst (v := nI 0) hx hb dX2_weightOf_40 (by decide) ?_
      exact kret_i F hI dX2_weightOf_41 (⟨by simp [m_weight, c22], by simp [m_weight, m_inc, c22]⟩)
end MC1
end
section
/-! the reference: home, set, keeper, decides -/
def m_tallS (st : MS) : Nat → Nat → MS
  | 0, _ => st
  | f + 1, i => m_tallS (mset (mset st 11 (7 * i + 6) (st.1 11 (7 * i + 6) + st.1 11 (7 * i + 5))) 11 (7 * i + 5) (nI 0)) f (i + 1)
def m_setR (st : MS) (w : Nat) (v : Int32) : MS :=
  let s1 := mset st 1 w v
  if w = 0 ∧ ¬ st.1 1 w = v then m_tallS s1 5 0 else s1
def m_kp1 (st : MS) (k : Nat) (up : Bool) (n : Nat) : MS :=
  if st.1 2 n = nI k ∧ up = false then m_inc (mset st 2 n (-9)) 13 3 else st
def m_kp2 (st : MS) (n : Nat) : MS :=
  if ¬ st.1 2 n = -9 ∧ ¬ st.1 2 n = hm (m_up st) n then m_inc (mset st 2 n (hm (m_up st) n)) 13 4 else st
def m_kpL (k : Nat) (up : Bool) : Nat → Nat → MS → MS
  | 0, _, st => st
  | f + 1, n, st => m_kpL k up f (n + 1) (m_kp2 (m_kp1 st k up n) n)
def m_keeper (st : MS) (k : Nat) (up : Bool) : Int32 × MS :=
  if st.1 0 k = bI up then (nI 1, m_kpL k up 100 0 (mset st 0 k (bI (!up)))) else (nI 0, st)
def stpL (z : Nat) : Nat → Nat → Nat
  | 0, j => j
  | f + 1, j => if z < 2 ^ j then j else stpL z f (j + 1)
def stp (z : Nat) : Nat := stpL z 13 0
theorem stpL_le (z : Nat) : ∀ f j : Nat, stpL z f j ≤ j + f := by
  intro f
  induction f with
  | zero => intro j; exact Nat.le_refl _
  | succ f ih =>
    intro j
    unfold stpL
    split
    · omega
    · have := ih (j + 1)
      omega
theorem stp_lt (z : Nat) : stp z < 14 := Nat.lt_of_le_of_lt (stpL_le z 13 0) (by decide)
def mcp (st : MS) (k i k2 i2 : Nat) : MS := mset st k i (st.1 k2 i2)
def mnw (st : MS) (k i : Nat) : MS := mset st k i st.2.1
def madd (st : MS) (k i : Nat) (v : Int32) : MS := mset st k i (st.1 k i + v)
def m_decA (st : MS) (n sh z : Nat) (tn : Bool) : MS := mnw (mcp (mset (madd (m_inc (m_inc (m_inc st 11 (7 * sh)) 12 (stp z)) 13 10) 13 11 (bI tn)) 2 n (-9)) 8 n 13 10) 9 n
def m_rowK (s8 : MS) (km n sh : Nat) (tn : Bool) (w : Int32) : MS := madd (mkm (mcp (mnw (mset (mset (mcp (mset (mcp (mset s8 10 (8 * km) (nI n)) 10 (8 * km + 1) 3 n) 10 (8 * km + 2) (nI sh)) 10 (8 * km + 3) 5 n) 10 (8 * km + 4) w) 10 (8 * km + 5) (bI tn)) 10 (8 * km + 6)) 10 (8 * km + 7) 13 10) (km + 1)) 11 (7 * sh + 1) w
def m_row (s8 : MS) (n sh : Nat) (tn : Bool) (w : Int32) : MS := m_rowK s8 s8.2.2.2 n sh tn w
def m_keep (s8 : MS) (n sh : Nat) (tn : Bool) (w : Int32) : MS :=
  if w ≤ 0 then s8 else if s8.2.2.2 = 20 then madd s8 11 (7 * sh + 3) w else m_row s8 n sh tn w
def m_decS (st : MS) (n sh z : Nat) (tn : Bool) : MS := m_keep (m_decA (m_weight st sh (nI z) tn).2 n sh z tn) n sh tn (m_weight st sh (nI z) tn).1
def m_dec (st : MS) (n : Nat) (tn : Bool) : MS := m_decS st n (st.1 4 n).toNatClampNeg (st.1 5 n).toNatClampNeg tn
/-- what the weighing leaves as it is -/
def m_only (st u : MS) : Prop := (∀ k, k ≠ 11 → u.1 k = st.1 k) ∧ u.2.1 = st.2.1 ∧ u.2.2.2 = st.2.2.2
theorem m_only_set {st u : MS} {i : Nat} {v : Int32} (h : m_only st u) : m_only st (mset u 11 i v) := ⟨fun k hk => (va_up_ne _ _ hk).trans (h.1 k hk), h.2⟩
theorem m_only_tr {st u : MS} {v : Int64} (h : m_only st u) : m_only st (mtr u v) := h
theorem m_only_rf (st : MS) : m_only st st := ⟨fun _ _ => rfl, rfl, rfl⟩
theorem m_only_fair {st u : MS} (sh : Nat) (h : m_only st u) : m_only st (m_fair u sh).2 := by
  unfold m_fair
  dsimp only
  split
  · exact m_only_set (m_only_set (m_only_tr h))
  · exact m_only_set (m_only_tr h)
theorem m_only_long {st u : MS} (sh : Nat) (z : Int32) (h : m_only st u) : m_only st (m_long u sh z).2 := by
  unfold m_long
  dsimp only
  split
  · exact m_only_fair sh (m_only_tr h)
  · exact m_only_tr h
theorem m_only_rare {st u : MS} (sh : Nat) (z : Int32) (h : m_only st u) : m_only st (m_rare u sh z).2 := by
  unfold m_rare
  dsimp only
  split
  · exact m_only_long sh z (m_only_tr h)
  · exact m_only_tr h
theorem m_only_weight (st : MS) (sh : Nat) (z : Int32) (tn : Bool) : m_only st (m_weight st sh z tn).2 := by
  unfold m_weight
  dsimp only
  split
  · split
    · exact m_only_set (m_only_tr (m_only_rf st))
    · exact m_only_rare sh z (m_only_tr (m_only_rf st))
  · exact m_only_rare sh z (m_only_rf st)
section MC2
variable (l : Launch) {D : va_G} {g : Nat → Nat} {K : Nat → ClassId}
theorem mc_home_bad (st : MS) (x : Int32) (h : inR x (nI 0) (nI 99) = false) : kM l yX2_home cX2_home 2 (some .int) 1 25 0 0 D (mty K) (mw g K) [.ref (g 0), .int x] st (fun v u => v = some (.int (-1)) ∧ u = st) := by
  refine kM_intro (by decide) (Nat.le_of_ble_eq_true rfl) ?_
  intro p e s m below meth c A ls F hA hI hl
  obtain ⟨hx, hb, hr, hml, hown, hts, hlk, hK, hnm⟩ := id F
  have hl : lv_has ls 2 [(0, .ref (g 0)), (1, .int x)] := hl
  refine lv_aload_n hx hb dX2_home_0 rfl (lv_at hl 0 rfl) ?_
  refine lv_iconst (v := nI 0) hx hb dX2_home_1 (by decide) ?_
  refine m_putTh F hI flX2_53 dX2_home_2 (fun H locs hI => ?_)
  refine lv_iload_n hx hb dX2_home_5 rfl (lv_at hl 1 rfl) ?_
  refine lv_iconst (v := nI 0) hx hb dX2_home_6 (by decide) ?_
  refine lv_bipush (v := nI 99) hx hb dX2_home_7 (by decide) ?_
  refine kcallS (rest := []) F hA hI (mc_in l _ _ _ _) kgX2_57 hl.1 rfl rfl (Nat.le_of_ble_eq_true rfl) dX2_home_9 ⟨Nat.le_of_ble_eq_true rfl, Nat.le_of_ble_eq_true rfl⟩ ⟨Nat.le_of_ble_eq_true rfl, Nat.le_of_ble_eq_true rfl⟩ (fun vq uq H locs hp hI => ?_)
  obtain ⟨rfl, hu⟩ := hp
  rw [hu] at hI
  clear hu
  refine kstk (b := .int _ :: []) rfl ?_
  refine lv_if_eq (tgt := 23) hx hb dX2_home_12 (by decide) (fun c12 => ?_) (fun c12 => absurd c12 (fun q => q (bI_z.mpr h)))
  refine lv_iconst (v := -1) hx hb dX2_home_23 (by decide) ?_
  exact kret_i F hI dX2_home_24 (⟨rfl, rfl⟩)
theorem mc_home (st : MS) (n : Nat) (hn : n < 100) : kM l yX2_home cX2_home 2 (some .int) 1 25 0 0 D (mty K) (mw g K) [.ref (g 0), .int (nI n)] st (fun v u => v = some (.int (hm (m_up st) n)) ∧ u = st) := by
  have h : inR (nI n) (nI 0) (nI 99) = true := inR_in (by decide) (by omega) (by omega)
  refine kM_intro (by decide) (Nat.le_of_ble_eq_true rfl) ?_
  intro p e s m below meth c A ls F hA hI hl
  obtain ⟨hx, hb, hr, hml, hown, hts, hlk, hK, hnm⟩ := id F
  have hl : lv_has ls 2 [(0, .ref (g 0)), (1, .int (nI n))] := hl
  refine lv_aload_n hx hb dX2_home_0 rfl (lv_at hl 0 rfl) ?_
  refine lv_iconst (v := nI 0) hx hb dX2_home_1 (by decide) ?_
  refine m_putTh F hI flX2_53 dX2_home_2 (fun H locs hI => ?_)
  refine lv_iload_n hx hb dX2_home_5 rfl (lv_at hl 1 rfl) ?_
  refine lv_iconst (v := nI 0) hx hb dX2_home_6 (by decide) ?_
  refine lv_bipush (v := nI 99) hx hb dX2_home_7 (by decide) ?_
  refine kcallS (rest := []) F hA hI (mc_in l _ _ _ _) kgX2_57 hl.1 rfl rfl (Nat.le_of_ble_eq_true rfl) dX2_home_9 ⟨Nat.le_of_ble_eq_true rfl, Nat.le_of_ble_eq_true rfl⟩ ⟨Nat.le_of_ble_eq_true rfl, Nat.le_of_ble_eq_true rfl⟩ (fun vq uq H locs hp hI => ?_)
  obtain ⟨rfl, hu⟩ := hp
  rw [hu] at hI
  clear hu
  refine kstk (b := .int _ :: []) rfl ?_
  refine lv_if_eq (tgt := 23) hx hb dX2_home_12 (by decide) (fun c12 => absurd c12 (fun q => by rw [bI_z, h] at q; cases q)) (fun c12 => ?_)
  refine lv_aload_n hx hb dX2_home_15 rfl (lv_at hl 0 rfl) ?_
  refine lv_iload_n hx hb dX2_home_16 rfl (lv_at hl 1 rfl) ?_
  refine kcallV (rest := []) F hA hI (mc_homeOf l _ n hn) kgX2_61 (m_rec F hI) hl.1 rfl rfl (Nat.le_of_ble_eq_true rfl) dX2_home_17 ⟨Nat.le_of_ble_eq_true rfl, Nat.le_of_ble_eq_true rfl⟩ ⟨Nat.le_of_ble_eq_true rfl, Nat.le_of_ble_eq_true rfl⟩ (fun vq uq H locs hp hI => ?_)
  obtain ⟨rfl, hu⟩ := hp
  rw [hu] at hI
  clear hu
  refine kstk (b := .int _ :: []) rfl ?_
  refine lv_goto (tgt := 24) hx hb dX2_home_20 (by decide) ?_
  exact kret_i F hI dX2_home_24 (⟨rfl, rfl⟩)
theorem mc_keeper_bad (st : MS) (x : Int32) (up : Bool) (h : inR x (nI 0) (nI 3) = false) : kM l yX2_keeper cX2_keeper 4 (some .int) 1 25 0 0 D (mty K) (mw g K) [.ref (g 0), .int x, .int (bI up)] st (fun v u => v = some (.int (-1)) ∧ u = st) := by
  refine kM_intro (by decide) (Nat.le_of_ble_eq_true rfl) ?_
  intro p e s m below meth c A ls F hA hI hl
  obtain ⟨hx, hb, hr, hml, hown, hts, hlk, hK, hnm⟩ := id F
  have hl : lv_has ls 4 [(0, .ref (g 0)), (1, .int x), (2, .int (bI up))] := hl
  refine lv_aload_n hx hb dX2_keeper_0 rfl (lv_at hl 0 rfl) ?_
  refine lv_iconst (v := nI 0) hx hb dX2_keeper_1 (by decide) ?_
  refine m_putTh F hI flX2_53 dX2_keeper_2 (fun H locs hI => ?_)
  refine lv_iload_n hx hb dX2_keeper_5 rfl (lv_at hl 1 rfl) ?_
  refine lv_iconst (v := nI 0) hx hb dX2_keeper_6 (by decide) ?_
  refine lv_iconst (v := nI 3) hx hb dX2_keeper_7 (by decide) ?_
  refine kcallS (rest := []) F hA hI (mc_in l _ _ _ _) kgX2_57 hl.1 rfl rfl (Nat.le_of_ble_eq_true rfl) dX2_keeper_8 ⟨Nat.le_of_ble_eq_true rfl, Nat.le_of_ble_eq_true rfl⟩ ⟨Nat.le_of_ble_eq_true rfl, Nat.le_of_ble_eq_true rfl⟩ (fun vq uq H locs hp hI => ?_)
  obtain ⟨rfl, hu⟩ := hp
  rw [hu] at hI
  clear hu
  refine kstk (b := .int _ :: []) rfl ?_
  refine lv_if_ne (tgt := 16) hx hb dX2_keeper_11 (by decide) (fun c11 => absurd c11 (fun q => q (bI_z.mpr h))) (fun c11 => ?_)
  refine lv_iconst (v := -1) hx hb dX2_keeper_14 (by decide) ?_
  exact kret_i F hI dX2_keeper_15 (⟨rfl, rfl⟩)
theorem mc_keeper (st : MS) (k : Nat) (up : Bool) (hk : k < 4) : kM l yX2_keeper cX2_keeper 4 (some .int) 1 25 0 0 D (mty K) (mw g K) [.ref (g 0), .int (nI k), .int (bI up)] st (fun v u => v = some (.int (m_keeper st k up).1) ∧ u = (m_keeper st k up).2) := by
  have h : inR (nI k) (nI 0) (nI 3) = true := inR_in (by decide) (by omega) (by omega)
  refine kM_intro (by decide) (Nat.le_of_ble_eq_true rfl) ?_
  intro p e s m below meth c A ls F hA hI hl
  obtain ⟨hx, hb, hr, hml, hown, hts, hlk, hK, hnm⟩ := id F
  have hl : lv_has ls 4 [(0, .ref (g 0)), (1, .int (nI k)), (2, .int (bI up))] := hl
  by_cases hd : st.1 0 k = bI up
  · have h0 : bI (!up) = if bI up = 0 then nI 1 else nI 0 := by cases up <;> rfl
    have fin : ∀ (H : Heap) (locs : List Loc) (ls : Array Slot), kI D (mw g K) A s.heap (mset st 0 k (bI (!up))) H locs → lv_has ls 4 [(0, .ref (g 0)), (1, .int (nI k)), (2, .int (bI up))] → W p l e { frames := 1, cells := 0, slots := 0, locals := 25 } s m #[.ref (g 0), .int (nI k), .int (bI up)] below meth c H locs 0 0 (MQ below (kQ D (mty K) (mw g K) (fun v u => v = some (.int (m_keeper st k up).1) ∧ u = (m_keeper st k up).2) A) #[.ref (g 0), .int (nI k), .int (bI up)] s 0 0 A) (F0 m 43 ls []) := by
      intro H locs ls hI hl
      refine lv_iconst (v := nI 0) hx hb dX2_keeper_43 (by decide) ?_
      refine lv_istore_n (lv' := [(3, .int _), (0, .ref _), (1, .int _), (2, .int _)]) hx hb dX2_keeper_44 rfl hl (by decide) rfl (fun ls hl => ?_)
      refine wloop (σ := Nat × Nat × MS) (fun x => x.1) (fun x H locs ls => x.2.1 + x.1 = 100 ∧ m_kpL k up x.1 x.2.1 x.2.2 = (m_keeper st k up).2 ∧ kI D (mw g K) A s.heap x.2.2 H locs ∧ lv_has ls 4 [(3, .int (nI x.2.1)), (0, .ref (g 0)), (1, .int (nI k)), (2, .int (bI up))]) ?_ (100, 0, mset st 0 k (bI (!up))) _ _ _ ⟨rfl, by simp [m_keeper, hd], hI, lv_sub hl [0, 1, 2, 3] rfl⟩
      rintro ⟨f, n, u⟩ H locs ls ⟨hk, he, hI, hl⟩ ih
      dsimp only at hk he hI hl ih
      have h83 : ∀ (u2 : MS) (H : Heap) (locs : List Loc) (ls : Array Slot), 0 < f → u2 = m_kp1 u k up n → kI D (mw g K) A s.heap u2 H locs → lv_has ls 4 [(3, .int (nI n)), (0, .ref (g 0)), (1, .int (nI k)), (2, .int (bI up))] → W p l e { frames := 1, cells := 0, slots := 0, locals := 25 } s m #[.ref (g 0), .int (nI k), .int (bI up)] below meth c H locs 0 0 (MQ below (kQ D (mty K) (mw g K) (fun v u => v = some (.int (m_keeper st k up).1) ∧ u = (m_keeper st k up).2) A) #[.ref (g 0), .int (nI k), .int (bI up)] s 0 0 A) (F0 m 83 ls []) := by
        intro u2 H locs ls hf hu hI hl
        obtain ⟨f, rfl⟩ : ∃ f', f = f' + 1 := ⟨f - 1, by omega⟩
        refine lv_aload_n hx hb dX2_keeper_83 rfl (lv_at hl 1 rfl) ?_
        refine m_get F hI 5 (by decide) rfl flX2_17 dX2_keeper_84 ?_
        refine lv_iload_n hx hb dX2_keeper_87 rfl (lv_at hl 0 rfl) ?_
        refine m_ald F hI  2 (show n < 100 by omega) rfl dX2_keeper_88 ?_
        refine lv_bipush (v := -9) hx hb dX2_keeper_89 (by decide) ?_
        refine lv_icmp_eq (tgt := 129) hx hb dX2_keeper_91 (by decide) (fun c91 => ?_) (fun c91 => ?_)
        ·
          refine lv_iinc (v := nI (n + 1)) (lv' := [(3, .int _), (0, .ref _), (1, .int _), (2, .int _)]) hx hb dX2_keeper_129 hl (k := 0) rfl (kinc _ 1) (by decide) rfl (fun ls hl => ?_)
          refine lv_goto (tgt := 45) hx hb dX2_keeper_132 (by decide) ?_
          exact ih (f, n + 1, u2) _ _ _ (by show f < f + 1; omega) ⟨by show n + 1 + f = _; omega, by rw [← he]; show _ = m_kpL k up f (n + 1) (m_kp2 (m_kp1 u k up n) n); rw [← hu]; simp [m_kp2, c91], hI, lv_sub hl [0, 1, 2, 3] rfl⟩
        ·
          refine lv_aload_n hx hb dX2_keeper_94 rfl (lv_at hl 1 rfl) ?_
          refine m_get F hI 5 (by decide) rfl flX2_17 dX2_keeper_95 ?_
          refine lv_iload_n hx hb dX2_keeper_98 rfl (lv_at hl 0 rfl) ?_
          refine m_ald F hI  2 (show n < 100 by omega) rfl dX2_keeper_99 ?_
          refine lv_aload_n hx hb dX2_keeper_100 rfl (lv_at hl 1 rfl) ?_
          refine lv_iload_n hx hb dX2_keeper_101 rfl (lv_at hl 0 rfl) ?_
          refine kcallV (rest := [.int _]) F hA hI (mc_homeOf l _ n (by omega)) kgX2_61 (m_rec F hI) hl.1 rfl rfl (Nat.le_of_ble_eq_true rfl) dX2_keeper_102 ⟨Nat.le_of_ble_eq_true rfl, Nat.le_of_ble_eq_true rfl⟩ ⟨Nat.le_of_ble_eq_true rfl, Nat.le_of_ble_eq_true rfl⟩ (fun vq uq H locs hp hI => ?_)
          obtain ⟨rfl, hu⟩ := hp
          rw [hu] at hI
          clear hu
          refine kstk (b := .int _ :: [.int _]) rfl ?_
          refine lv_icmp_eq (tgt := 129) hx hb dX2_keeper_105 (by decide) (fun c105 => ?_) (fun c105 => ?_)
          ·
            refine lv_iinc (v := nI (n + 1)) (lv' := [(3, .int _), (0, .ref _), (1, .int _), (2, .int _)]) hx hb dX2_keeper_129 hl (k := 0) rfl (kinc _ 1) (by decide) rfl (fun ls hl => ?_)
            refine lv_goto (tgt := 45) hx hb dX2_keeper_132 (by decide) ?_
            exact ih (f, n + 1, u2) _ _ _ (by show f < f + 1; omega) ⟨by show n + 1 + f = _; omega, by rw [← he]; show _ = m_kpL k up f (n + 1) (m_kp2 (m_kp1 u k up n) n); rw [← hu]; simp [m_kp2, c91, c105], hI, lv_sub hl [0, 1, 2, 3] rfl⟩
          ·
            refine lv_aload_n hx hb dX2_keeper_108 rfl (lv_at hl 1 rfl) ?_
            refine m_get F hI 5 (by decide) rfl flX2_17 dX2_keeper_109 ?_
            refine lv_iload_n hx hb dX2_keeper_112 rfl (lv_at hl 0 rfl) ?_
            refine lv_aload_n hx hb dX2_keeper_113 rfl (lv_at hl 1 rfl) ?_
            refine lv_iload_n hx hb dX2_keeper_114 rfl (lv_at hl 0 rfl) ?_
            refine kcallV (rest := [.int _, .ref _]) F hA hI (mc_homeOf l _ n (by omega)) kgX2_61 (m_rec F hI) hl.1 rfl rfl (Nat.le_of_ble_eq_true rfl) dX2_keeper_115 ⟨Nat.le_of_ble_eq_true rfl, Nat.le_of_ble_eq_true rfl⟩ ⟨Nat.le_of_ble_eq_true rfl, Nat.le_of_ble_eq_true rfl⟩ (fun vq uq H locs hp hI => ?_)
            obtain ⟨rfl, hu⟩ := hp
            rw [hu] at hI
            clear hu
            refine kstk (b := .int _ :: [.int _, .ref _]) rfl ?_
            refine m_ast F hI 2 (show n < 100 by omega) rfl dX2_keeper_118 (fun H locs hI => ?_)
            refine lv_aload_n hx hb dX2_keeper_119 rfl (lv_at hl 1 rfl) ?_
            refine m_get F hI 17 (by decide) rfl flX2_50 dX2_keeper_120 ?_
            refine lv_iconst (v := nI 4) hx hb dX2_keeper_123 (by decide) ?_
            refine lv_dup2_11 hx hb dX2_keeper_124 rfl rfl ?_
            refine m_ald F hI  13 (show 4 < 13 by omega) rfl dX2_keeper_125 ?_
            refine lv_iconst (v := nI 1) hx hb dX2_keeper_126 (by decide) ?_
            refine lv_iadd hx hb dX2_keeper_127 ?_
            refine m_ast F hI 13 (show 4 < 13 by omega) rfl dX2_keeper_128 (fun H locs hI => ?_)
            refine lv_iinc (v := nI (n + 1)) (lv' := [(3, .int _), (0, .ref _), (1, .int _), (2, .int _)]) hx hb dX2_keeper_129 hl (k := 0) rfl (kinc _ 1) (by decide) rfl (fun ls hl => ?_)
            refine lv_goto (tgt := 45) hx hb dX2_keeper_132 (by decide) ?_
            exact ih (f, n + 1, m_inc (mset u2 2 n (hm (m_up u2) n)) 13 4) _ _ _ (by show f < f + 1; omega) ⟨by show n + 1 + f = _; omega, by rw [← he]; show _ = m_kpL k up f (n + 1) (m_kp2 (m_kp1 u k up n) n); rw [← hu]; simp [m_kp2, c91, c105], hI, lv_sub hl [0, 1, 2, 3] rfl⟩
      refine lv_iload_n hx hb dX2_keeper_45 rfl (lv_at hl 0 rfl) ?_
      refine lv_bipush (v := nI 100) hx hb dX2_keeper_46 (by decide) ?_
      refine lv_icmp_ge (tgt := 135) hx hb dX2_keeper_48 (by decide) (fun c48 => ?_) (fun c48 => ?_)
      ·
        rw [nI_leI (by omega) (by omega)] at c48
        obtain rfl : f = 0 := by omega
        refine lv_iconst (v := nI 1) hx hb dX2_keeper_135 (by decide) ?_
        exact kret_i F hI dX2_keeper_136 (⟨by simp [m_keeper, hd], by rw [← he]; rfl⟩)
      ·
        rw [nI_leI (by omega) (by omega)] at c48
        refine lv_aload_n hx hb dX2_keeper_51 rfl (lv_at hl 1 rfl) ?_
        refine m_get F hI 5 (by decide) rfl flX2_17 dX2_keeper_52 ?_
        refine lv_iload_n hx hb dX2_keeper_55 rfl (lv_at hl 0 rfl) ?_
        refine m_ald F hI  2 (show n < 100 by omega) rfl dX2_keeper_56 ?_
        refine lv_iload_n hx hb dX2_keeper_57 rfl (lv_at hl 2 rfl) ?_
        refine lv_icmp_ne (tgt := 83) hx hb dX2_keeper_58 (by decide) (fun c58 => ?_) (fun c58 => ?_)
        ·
          exact h83 u _ _ _ (by omega) (by simp [m_kp1, c58]) hI (lv_sub hl [0, 1, 2, 3] rfl)
        ·
          refine lv_iload_n hx hb dX2_keeper_61 rfl (lv_at hl 3 rfl) ?_
          refine lv_if_ne (tgt := 83) hx hb dX2_keeper_62 (by decide) (fun c62 => ?_) (fun c62 => ?_)
          ·
            exact h83 u _ _ _ (by omega) (by rw [bI_z] at c62; simp [m_kp1, c62]) hI (lv_sub hl [0, 1, 2, 3] rfl)
          ·
            refine lv_aload_n hx hb dX2_keeper_65 rfl (lv_at hl 1 rfl) ?_
            refine m_get F hI 5 (by decide) rfl flX2_17 dX2_keeper_66 ?_
            refine lv_iload_n hx hb dX2_keeper_69 rfl (lv_at hl 0 rfl) ?_
            refine lv_bipush (v := -9) hx hb dX2_keeper_70 (by decide) ?_
            refine m_ast F hI 2 (show n < 100 by omega) rfl dX2_keeper_72 (fun H locs hI => ?_)
            refine lv_aload_n hx hb dX2_keeper_73 rfl (lv_at hl 1 rfl) ?_
            refine m_get F hI 17 (by decide) rfl flX2_50 dX2_keeper_74 ?_
            refine lv_iconst (v := nI 3) hx hb dX2_keeper_77 (by decide) ?_
            refine lv_dup2_11 hx hb dX2_keeper_78 rfl rfl ?_
            refine m_ald F hI  13 (show 3 < 13 by omega) rfl dX2_keeper_79 ?_
            refine lv_iconst (v := nI 1) hx hb dX2_keeper_80 (by decide) ?_
            refine lv_iadd hx hb dX2_keeper_81 ?_
            refine m_ast F hI 13 (show 3 < 13 by omega) rfl dX2_keeper_82 (fun H locs hI => ?_)
            exact h83 _ _ _ _ (by omega) (by rw [bI_z] at c62; simp [m_kp1, c58, c62, m_inc]) hI (lv_sub hl [0, 1, 2, 3] rfl)
    refine lv_aload_n hx hb dX2_keeper_0 rfl (lv_at hl 0 rfl) ?_
    refine lv_iconst (v := nI 0) hx hb dX2_keeper_1 (by decide) ?_
    refine m_putTh F hI flX2_53 dX2_keeper_2 (fun H locs hI => ?_)
    refine lv_iload_n hx hb dX2_keeper_5 rfl (lv_at hl 1 rfl) ?_
    refine lv_iconst (v := nI 0) hx hb dX2_keeper_6 (by decide) ?_
    refine lv_iconst (v := nI 3) hx hb dX2_keeper_7 (by decide) ?_
    refine kcallS (rest := []) F hA hI (mc_in l _ _ _ _) kgX2_57 hl.1 rfl rfl (Nat.le_of_ble_eq_true rfl) dX2_keeper_8 ⟨Nat.le_of_ble_eq_true rfl, Nat.le_of_ble_eq_true rfl⟩ ⟨Nat.le_of_ble_eq_true rfl, Nat.le_of_ble_eq_true rfl⟩ (fun vq uq H locs hp hI => ?_)
    obtain ⟨rfl, hu⟩ := hp
    rw [hu] at hI
    clear hu
    refine kstk (b := .int _ :: []) rfl ?_
    refine lv_if_ne (tgt := 16) hx hb dX2_keeper_11 (by decide) (fun c11 => ?_) (fun c11 => absurd c11 (fun q => by rw [bI_z, h] at q; cases q))
    refine lv_aload_n hx hb dX2_keeper_16 rfl (lv_at hl 0 rfl) ?_
    refine m_get F hI 3 (by decide) rfl flX2_7 dX2_keeper_17 ?_
    refine lv_iload_n hx hb dX2_keeper_20 rfl (lv_at hl 1 rfl) ?_
    refine m_zald F hI  0 (show k < 4 by omega) rfl dX2_keeper_21 ?_
    refine lv_iload_n hx hb dX2_keeper_22 rfl (lv_at hl 2 rfl) ?_
    refine lv_icmp_eq (tgt := 28) hx hb dX2_keeper_23 (by decide) (fun c23 => ?_) (fun c23 => absurd c23 ((fun q => q hd)))
    refine lv_aload_n hx hb dX2_keeper_28 rfl (lv_at hl 0 rfl) ?_
    refine m_get F hI 3 (by decide) rfl flX2_7 dX2_keeper_29 ?_
    refine lv_iload_n hx hb dX2_keeper_32 rfl (lv_at hl 1 rfl) ?_
    refine lv_iload_n hx hb dX2_keeper_33 rfl (lv_at hl 2 rfl) ?_
    refine lv_if_ne (tgt := 41) hx hb dX2_keeper_34 (by decide) (fun c34 => ?_) (fun c34 => ?_)
    ·
      refine lv_iconst (v := nI 0) hx hb dX2_keeper_41 (by decide) ?_
      refine m_zast F hI 0 (show k < 4 by omega) rfl (by first | rfl | decide) dX2_keeper_42 (fun H locs hI => ?_)
      exact fin _ _ _ (by rw [h0, if_neg c34]; exact hI) hl
    ·
      refine lv_iconst (v := nI 1) hx hb dX2_keeper_37 (by decide) ?_
      refine lv_goto (tgt := 42) hx hb dX2_keeper_38 (by decide) ?_
      refine m_zast F hI 0 (show k < 4 by omega) rfl (by first | rfl | decide) dX2_keeper_42 (fun H locs hI => ?_)
      exact fin _ _ _ (by rw [h0, if_pos c34]; exact hI) hl
  · have hl := hl
    refine lv_aload_n hx hb dX2_keeper_0 rfl (lv_at hl 0 rfl) ?_
    refine lv_iconst (v := nI 0) hx hb dX2_keeper_1 (by decide) ?_
    refine m_putTh F hI flX2_53 dX2_keeper_2 (fun H locs hI => ?_)
    refine lv_iload_n hx hb dX2_keeper_5 rfl (lv_at hl 1 rfl) ?_
    refine lv_iconst (v := nI 0) hx hb dX2_keeper_6 (by decide) ?_
    refine lv_iconst (v := nI 3) hx hb dX2_keeper_7 (by decide) ?_
    refine kcallS (rest := []) F hA hI (mc_in l _ _ _ _) kgX2_57 hl.1 rfl rfl (Nat.le_of_ble_eq_true rfl) dX2_keeper_8 ⟨Nat.le_of_ble_eq_true rfl, Nat.le_of_ble_eq_true rfl⟩ ⟨Nat.le_of_ble_eq_true rfl, Nat.le_of_ble_eq_true rfl⟩ (fun vq uq H locs hp hI => ?_)
    obtain ⟨rfl, hu⟩ := hp
    rw [hu] at hI
    clear hu
    refine kstk (b := .int _ :: []) rfl ?_
    refine lv_if_ne (tgt := 16) hx hb dX2_keeper_11 (by decide) (fun c11 => ?_) (fun c11 => absurd c11 (fun q => by rw [bI_z, h] at q; cases q))
    refine lv_aload_n hx hb dX2_keeper_16 rfl (lv_at hl 0 rfl) ?_
    refine m_get F hI 3 (by decide) rfl flX2_7 dX2_keeper_17 ?_
    refine lv_iload_n hx hb dX2_keeper_20 rfl (lv_at hl 1 rfl) ?_
    refine m_zald F hI  0 (show k < 4 by omega) rfl dX2_keeper_21 ?_
    refine lv_iload_n hx hb dX2_keeper_22 rfl (lv_at hl 2 rfl) ?_
    refine lv_icmp_eq (tgt := 28) hx hb dX2_keeper_23 (by decide) (fun c23 => absurd c23 (hd)) (fun c23 => ?_)
    refine lv_iconst (v := nI 0) hx hb dX2_keeper_26 (by decide) ?_
    exact kret_i F hI dX2_keeper_27 (⟨by simp [m_keeper, hd], by simp [m_keeper, hd]⟩)
theorem mc_set_bad (st : MS) (x v : Int32) (h : (if x = nI 0 then inR v (nI 1) (nI 9) else if x = nI 1 then inR v (nI 1) (nI 8000) else if x = nI 2 then inR v (nI 0) (nI 9) else if x = nI 3 then inR v (nI 0) (nI 1) else if x = nI 4 then inR v (nI 1) (nI 20) else if x = nI 5 then inR v (nI 0) (nI 20) else false) = false) : kM l yX2_set cX2_set 6 (some .int) 1 22 0 0 D (mty K) (mw g K) [.ref (g 0), .int x, .int v] st (fun v u => v = some (.int (-1)) ∧ u = st) := by
  refine kM_intro (by decide) (Nat.le_of_ble_eq_true rfl) ?_
  intro p e s m below meth c A ls F hA hI hl
  obtain ⟨hx, hb, hr, hml, hown, hts, hlk, hK, hnm⟩ := id F
  have hl : lv_has ls 6 [(0, .ref (g 0)), (1, .int x), (2, .int v)] := hl
  have z0 : nI 0 = 0 := rfl
  refine lv_aload_n hx hb dX2_set_0 rfl (lv_at hl 0 rfl) ?_
  refine lv_iconst (v := nI 0) hx hb dX2_set_1 (by decide) ?_
  refine m_putTh F hI flX2_53 dX2_set_2 (fun H locs hI => ?_)
  refine lv_iload_n hx hb dX2_set_5 rfl (lv_at hl 1 rfl) ?_
  refine lv_if_ne (tgt := 19) hx hb dX2_set_6 (by decide) (fun c6 => ?_) (fun c6 => ?_)
  ·
    refine lv_iload_n hx hb dX2_set_19 rfl (lv_at hl 1 rfl) ?_
    refine lv_iconst (v := nI 1) hx hb dX2_set_20 (by decide) ?_
    refine lv_icmp_ne (tgt := 35) hx hb dX2_set_21 (by decide) (fun c21 => ?_) (fun c21 => ?_)
    ·
      refine lv_iload_n hx hb dX2_set_35 rfl (lv_at hl 1 rfl) ?_
      refine lv_iconst (v := nI 2) hx hb dX2_set_36 (by decide) ?_
      refine lv_icmp_ne (tgt := 50) hx hb dX2_set_37 (by decide) (fun c37 => ?_) (fun c37 => ?_)
      ·
        refine lv_iload_n hx hb dX2_set_50 rfl (lv_at hl 1 rfl) ?_
        refine lv_iconst (v := nI 3) hx hb dX2_set_51 (by decide) ?_
        refine lv_icmp_ne (tgt := 64) hx hb dX2_set_52 (by decide) (fun c52 => ?_) (fun c52 => ?_)
        ·
          refine lv_iload_n hx hb dX2_set_64 rfl (lv_at hl 1 rfl) ?_
          refine lv_iconst (v := nI 4) hx hb dX2_set_65 (by decide) ?_
          refine lv_icmp_ne (tgt := 79) hx hb dX2_set_66 (by decide) (fun c66 => ?_) (fun c66 => ?_)
          ·
            refine lv_iload_n hx hb dX2_set_79 rfl (lv_at hl 1 rfl) ?_
            refine lv_iconst (v := nI 5) hx hb dX2_set_80 (by decide) ?_
            refine lv_icmp_ne (tgt := 98) hx hb dX2_set_81 (by decide) (fun c81 => ?_) (fun c81 => ?_)
            ·
              refine lv_iconst (v := nI 0) hx hb dX2_set_98 (by decide) ?_
              refine lv_istore_n (lv' := [(3, .int _), (0, .ref _), (1, .int _), (2, .int _)]) hx hb dX2_set_99 rfl hl (by decide) rfl (fun ls hl => ?_)
              refine lv_iload_n hx hb dX2_set_100 rfl (lv_at hl 0 rfl) ?_
              refine lv_if_ne (tgt := 106) hx hb dX2_set_101 (by decide) (fun c101 => absurd c101 (fun q => q rfl)) (fun c101 => ?_)
              refine lv_iconst (v := -1) hx hb dX2_set_104 (by decide) ?_
              exact kret_i F hI dX2_set_105 (⟨rfl, rfl⟩)
            ·
              refine lv_iload_n hx hb dX2_set_84 rfl (lv_at hl 2 rfl) ?_
              refine lv_iconst (v := nI 0) hx hb dX2_set_85 (by decide) ?_
              refine lv_bipush (v := nI 20) hx hb dX2_set_86 (by decide) ?_
              refine kcallS (rest := []) F hA hI (mc_in l _ _ _ _) kgX2_57 hl.1 rfl rfl (Nat.le_of_ble_eq_true rfl) dX2_set_88 ⟨Nat.le_of_ble_eq_true rfl, Nat.le_of_ble_eq_true rfl⟩ ⟨Nat.le_of_ble_eq_true rfl, Nat.le_of_ble_eq_true rfl⟩ (fun vq uq H locs hp hI => ?_)
              obtain ⟨rfl, hu⟩ := hp
              rw [hu] at hI
              clear hu
              refine kstk (b := .int _ :: []) rfl ?_
              refine lv_if_eq (tgt := 98) hx hb dX2_set_91 (by decide) (fun c91 => ?_) (fun c91 => absurd c91 (fun q => q (by rw [bI_z]; rw [if_neg (show ¬ x = nI 0 from c6), if_neg c21, if_neg c37, if_neg c52, if_neg c66, if_pos c81] at h; exact h)))
              refine lv_iconst (v := nI 0) hx hb dX2_set_98 (by decide) ?_
              refine lv_istore_n (lv' := [(3, .int _), (0, .ref _), (1, .int _), (2, .int _)]) hx hb dX2_set_99 rfl hl (by decide) rfl (fun ls hl => ?_)
              refine lv_iload_n hx hb dX2_set_100 rfl (lv_at hl 0 rfl) ?_
              refine lv_if_ne (tgt := 106) hx hb dX2_set_101 (by decide) (fun c101 => absurd c101 (fun q => q rfl)) (fun c101 => ?_)
              refine lv_iconst (v := -1) hx hb dX2_set_104 (by decide) ?_
              exact kret_i F hI dX2_set_105 (⟨rfl, rfl⟩)
          ·
            refine lv_iload_n hx hb dX2_set_69 rfl (lv_at hl 2 rfl) ?_
            refine lv_iconst (v := nI 1) hx hb dX2_set_70 (by decide) ?_
            refine lv_bipush (v := nI 20) hx hb dX2_set_71 (by decide) ?_
            refine kcallS (rest := []) F hA hI (mc_in l _ _ _ _) kgX2_57 hl.1 rfl rfl (Nat.le_of_ble_eq_true rfl) dX2_set_73 ⟨Nat.le_of_ble_eq_true rfl, Nat.le_of_ble_eq_true rfl⟩ ⟨Nat.le_of_ble_eq_true rfl, Nat.le_of_ble_eq_true rfl⟩ (fun vq uq H locs hp hI => ?_)
            obtain ⟨rfl, hu⟩ := hp
            rw [hu] at hI
            clear hu
            refine kstk (b := .int _ :: []) rfl ?_
            refine lv_goto (tgt := 99) hx hb dX2_set_76 (by decide) ?_
            refine lv_istore_n (lv' := [(3, .int _), (0, .ref _), (1, .int _), (2, .int _)]) hx hb dX2_set_99 rfl hl (by decide) rfl (fun ls hl => ?_)
            refine lv_iload_n hx hb dX2_set_100 rfl (lv_at hl 0 rfl) ?_
            refine lv_if_ne (tgt := 106) hx hb dX2_set_101 (by decide) (fun c101 => absurd c101 (fun q => q (by rw [bI_z]; rw [if_neg (show ¬ x = nI 0 from c6), if_neg c21, if_neg c37, if_neg c52, if_pos c66] at h; exact h))) (fun c101 => ?_)
            refine lv_iconst (v := -1) hx hb dX2_set_104 (by decide) ?_
            exact kret_i F hI dX2_set_105 (⟨rfl, rfl⟩)
        ·
          refine lv_iload_n hx hb dX2_set_55 rfl (lv_at hl 2 rfl) ?_
          refine lv_iconst (v := nI 0) hx hb dX2_set_56 (by decide) ?_
          refine lv_iconst (v := nI 1) hx hb dX2_set_57 (by decide) ?_
          refine kcallS (rest := []) F hA hI (mc_in l _ _ _ _) kgX2_57 hl.1 rfl rfl (Nat.le_of_ble_eq_true rfl) dX2_set_58 ⟨Nat.le_of_ble_eq_true rfl, Nat.le_of_ble_eq_true rfl⟩ ⟨Nat.le_of_ble_eq_true rfl, Nat.le_of_ble_eq_true rfl⟩ (fun vq uq H locs hp hI => ?_)
          obtain ⟨rfl, hu⟩ := hp
          rw [hu] at hI
          clear hu
          refine kstk (b := .int _ :: []) rfl ?_
          refine lv_goto (tgt := 99) hx hb dX2_set_61 (by decide) ?_
          refine lv_istore_n (lv' := [(3, .int _), (0, .ref _), (1, .int _), (2, .int _)]) hx hb dX2_set_99 rfl hl (by decide) rfl (fun ls hl => ?_)
          refine lv_iload_n hx hb dX2_set_100 rfl (lv_at hl 0 rfl) ?_
          refine lv_if_ne (tgt := 106) hx hb dX2_set_101 (by decide) (fun c101 => absurd c101 (fun q => q (by rw [bI_z]; rw [if_neg (show ¬ x = nI 0 from c6), if_neg c21, if_neg c37, if_pos c52] at h; exact h))) (fun c101 => ?_)
          refine lv_iconst (v := -1) hx hb dX2_set_104 (by decide) ?_
          exact kret_i F hI dX2_set_105 (⟨rfl, rfl⟩)
      ·
        refine lv_iload_n hx hb dX2_set_40 rfl (lv_at hl 2 rfl) ?_
        refine lv_iconst (v := nI 0) hx hb dX2_set_41 (by decide) ?_
        refine lv_bipush (v := nI 9) hx hb dX2_set_42 (by decide) ?_
        refine kcallS (rest := []) F hA hI (mc_in l _ _ _ _) kgX2_57 hl.1 rfl rfl (Nat.le_of_ble_eq_true rfl) dX2_set_44 ⟨Nat.le_of_ble_eq_true rfl, Nat.le_of_ble_eq_true rfl⟩ ⟨Nat.le_of_ble_eq_true rfl, Nat.le_of_ble_eq_true rfl⟩ (fun vq uq H locs hp hI => ?_)
        obtain ⟨rfl, hu⟩ := hp
        rw [hu] at hI
        clear hu
        refine kstk (b := .int _ :: []) rfl ?_
        refine lv_goto (tgt := 99) hx hb dX2_set_47 (by decide) ?_
        refine lv_istore_n (lv' := [(3, .int _), (0, .ref _), (1, .int _), (2, .int _)]) hx hb dX2_set_99 rfl hl (by decide) rfl (fun ls hl => ?_)
        refine lv_iload_n hx hb dX2_set_100 rfl (lv_at hl 0 rfl) ?_
        refine lv_if_ne (tgt := 106) hx hb dX2_set_101 (by decide) (fun c101 => absurd c101 (fun q => q (by rw [bI_z]; rw [if_neg (show ¬ x = nI 0 from c6), if_neg c21, if_pos c37] at h; exact h))) (fun c101 => ?_)
        refine lv_iconst (v := -1) hx hb dX2_set_104 (by decide) ?_
        exact kret_i F hI dX2_set_105 (⟨rfl, rfl⟩)
    ·
      refine lv_iload_n hx hb dX2_set_24 rfl (lv_at hl 2 rfl) ?_
      refine lv_iconst (v := nI 1) hx hb dX2_set_25 (by decide) ?_
      refine lv_sipush (v := nI 8000) hx hb dX2_set_26 (by decide) ?_
      refine kcallS (rest := []) F hA hI (mc_in l _ _ _ _) kgX2_57 hl.1 rfl rfl (Nat.le_of_ble_eq_true rfl) dX2_set_29 ⟨Nat.le_of_ble_eq_true rfl, Nat.le_of_ble_eq_true rfl⟩ ⟨Nat.le_of_ble_eq_true rfl, Nat.le_of_ble_eq_true rfl⟩ (fun vq uq H locs hp hI => ?_)
      obtain ⟨rfl, hu⟩ := hp
      rw [hu] at hI
      clear hu
      refine kstk (b := .int _ :: []) rfl ?_
      refine lv_goto (tgt := 99) hx hb dX2_set_32 (by decide) ?_
      refine lv_istore_n (lv' := [(3, .int _), (0, .ref _), (1, .int _), (2, .int _)]) hx hb dX2_set_99 rfl hl (by decide) rfl (fun ls hl => ?_)
      refine lv_iload_n hx hb dX2_set_100 rfl (lv_at hl 0 rfl) ?_
      refine lv_if_ne (tgt := 106) hx hb dX2_set_101 (by decide) (fun c101 => absurd c101 (fun q => q (by rw [bI_z]; rw [if_neg (show ¬ x = nI 0 from c6), if_pos c21] at h; exact h))) (fun c101 => ?_)
      refine lv_iconst (v := -1) hx hb dX2_set_104 (by decide) ?_
      exact kret_i F hI dX2_set_105 (⟨rfl, rfl⟩)
  ·
    refine lv_iload_n hx hb dX2_set_9 rfl (lv_at hl 2 rfl) ?_
    refine lv_iconst (v := nI 1) hx hb dX2_set_10 (by decide) ?_
    refine lv_bipush (v := nI 9) hx hb dX2_set_11 (by decide) ?_
    refine kcallS (rest := []) F hA hI (mc_in l _ _ _ _) kgX2_57 hl.1 rfl rfl (Nat.le_of_ble_eq_true rfl) dX2_set_13 ⟨Nat.le_of_ble_eq_true rfl, Nat.le_of_ble_eq_true rfl⟩ ⟨Nat.le_of_ble_eq_true rfl, Nat.le_of_ble_eq_true rfl⟩ (fun vq uq H locs hp hI => ?_)
    obtain ⟨rfl, hu⟩ := hp
    rw [hu] at hI
    clear hu
    refine kstk (b := .int _ :: []) rfl ?_
    refine lv_goto (tgt := 99) hx hb dX2_set_16 (by decide) ?_
    refine lv_istore_n (lv' := [(3, .int _), (0, .ref _), (1, .int _), (2, .int _)]) hx hb dX2_set_99 rfl hl (by decide) rfl (fun ls hl => ?_)
    refine lv_iload_n hx hb dX2_set_100 rfl (lv_at hl 0 rfl) ?_
    refine lv_if_ne (tgt := 106) hx hb dX2_set_101 (by decide) (fun c101 => absurd c101 (fun q => q (by rw [bI_z]; rw [if_pos (show x = nI 0 from c6)] at h; exact h))) (fun c101 => ?_)
    refine lv_iconst (v := -1) hx hb dX2_set_104 (by decide) ?_
    exact kret_i F hI dX2_set_105 (⟨rfl, rfl⟩)
theorem mc_set (st : MS) (w : Nat) (v : Int32) (hw : w < 6) (h : (if w = 0 then inR v (nI 1) (nI 9) else if w = 1 then inR v (nI 1) (nI 8000) else if w = 2 then inR v (nI 0) (nI 9) else if w = 3 then inR v (nI 0) (nI 1) else if w = 4 then inR v (nI 1) (nI 20) else inR v (nI 0) (nI 20)) = true) : kM l yX2_set cX2_set 6 (some .int) 1 22 0 0 D (mty K) (mw g K) [.ref (g 0), .int (nI w), .int v] st (fun r u => r = some (.int (st.1 1 w)) ∧ u = m_setR st w v) := by
  refine kM_intro (by decide) (Nat.le_of_ble_eq_true rfl) ?_
  intro p e s m below meth c A ls F hA hI hl
  obtain ⟨hx, hb, hr, hml, hown, hts, hlk, hK, hnm⟩ := id F
  have hl : lv_has ls 6 [(0, .ref (g 0)), (1, .int (nI w)), (2, .int v)] := hl
  have z0 : nI w = 0 ↔ w = 0 := nI_eq (b := 0) (by omega) (by decide)
  have fin : ∀ (H : Heap) (locs : List Loc) (ls : Array Slot), kI D (mw g K) A s.heap st H locs → lv_has ls 6 [(0, .ref (g 0)), (1, .int (nI w)), (2, .int v)] → W p l e { frames := 1, cells := 0, slots := 0, locals := 22 } s m #[.ref (g 0), .int (nI w), .int v] below meth c H locs 0 0 (MQ below (kQ D (mty K) (mw g K) (fun r u => r = some (.int (st.1 1 w)) ∧ u = m_setR st w v) A) #[.ref (g 0), .int (nI w), .int v] s 0 0 A) (F0 m 106 ls []) := by
    intro H locs ls hI hl
    refine lv_aload_n hx hb dX2_set_106 rfl (lv_at hl 0 rfl) ?_
    refine m_get F hI 4 (by decide) rfl flX2_13 dX2_set_107 ?_
    refine lv_iload_n hx hb dX2_set_110 rfl (lv_at hl 1 rfl) ?_
    refine m_ald F hI  1 (show w < 6 by omega) rfl dX2_set_111 ?_
    refine lv_istore (lv' := [(4, .int _), (0, .ref _), (1, .int _), (2, .int _)]) hx hb dX2_set_112 hl (by decide) rfl (fun ls hl => ?_)
    refine lv_aload_n hx hb dX2_set_114 rfl (lv_at hl 1 rfl) ?_
    refine m_get F hI 4 (by decide) rfl flX2_13 dX2_set_115 ?_
    refine lv_iload_n hx hb dX2_set_118 rfl (lv_at hl 2 rfl) ?_
    refine lv_iload_n hx hb dX2_set_119 rfl (lv_at hl 3 rfl) ?_
    refine m_ast F hI 1 (show w < 6 by omega) rfl dX2_set_120 (fun H locs hI => ?_)
    refine lv_iconst (v := nI 0) hx hb dX2_set_121 (by decide) ?_
    refine lv_istore (lv' := [(5, .int _), (4, .int _), (0, .ref _), (1, .int _), (2, .int _)]) hx hb dX2_set_122 hl (by decide) rfl (fun ls hl => ?_)
    refine wloop (σ := Nat × Nat × MS) (fun x => x.1) (fun x H locs ls => x.2.1 + x.1 = 5 ∧ (w = 0 ∧ ¬ st.1 1 w = v → m_tallS x.2.2 x.1 x.2.1 = m_setR st w v) ∧ (¬ (w = 0 ∧ ¬ st.1 1 w = v) → x.2.2 = m_setR st w v) ∧ kI D (mw g K) A s.heap x.2.2 H locs ∧ lv_has ls 6 [(5, .int (nI x.2.1)), (4, .int (st.1 1 w)), (0, .ref (g 0)), (1, .int (nI w)), (2, .int v)]) ?_ (5, 0, mset st 1 w v) _ _ _ ⟨rfl, fun q => by simp only [m_setR, if_pos q], fun q => by simp only [m_setR, if_neg q], hI, lv_sub hl [0, 1, 2, 3, 4] rfl⟩
    rintro ⟨f, i, u⟩ H locs ls ⟨hk, he, he2, hI, hl⟩ ih
    dsimp only at hk he he2 hI hl ih
    refine lv_iload hx hb dX2_set_124 (lv_at hl 0 rfl) ?_
    refine lv_iconst (v := nI 5) hx hb dX2_set_126 (by decide) ?_
    refine lv_icmp_ge (tgt := 187) hx hb dX2_set_127 (by decide) (fun c127 => ?_) (fun c127 => ?_)
    ·
      rw [nI_leI (by omega) (by omega)] at c127
      obtain rfl : f = 0 := by omega
      refine lv_iload hx hb dX2_set_187 (lv_at hl 1 rfl) ?_
      exact kret_i F hI dX2_set_189 (⟨rfl, (Classical.em (w = 0 ∧ ¬ st.1 1 w = v)).elim he he2⟩)
    ·
      rw [nI_leI (by omega) (by omega)] at c127
      obtain ⟨f, rfl⟩ : ∃ f', f = f' + 1 := ⟨f - 1, by omega⟩
      refine lv_iload_n hx hb dX2_set_130 rfl (lv_at hl 3 rfl) ?_
      refine lv_if_ne (tgt := 187) hx hb dX2_set_131 (by decide) (fun c131 => ?_) (fun c131 => ?_)
      ·
        refine lv_iload hx hb dX2_set_187 (lv_at hl 1 rfl) ?_
        exact kret_i F hI dX2_set_189 (⟨rfl, he2 (fun q => c131 (z0.mpr q.1))⟩)
      ·
        refine lv_iload hx hb dX2_set_134 (lv_at hl 1 rfl) ?_
        refine lv_iload_n hx hb dX2_set_136 rfl (lv_at hl 4 rfl) ?_
        refine lv_icmp_eq (tgt := 187) hx hb dX2_set_137 (by decide) (fun c137 => ?_) (fun c137 => ?_)
        ·
          refine lv_iload hx hb dX2_set_187 (lv_at hl 1 rfl) ?_
          exact kret_i F hI dX2_set_189 (⟨rfl, he2 (fun q => q.2 c137)⟩)
        ·
          refine lv_aload_n hx hb dX2_set_140 rfl (lv_at hl 2 rfl) ?_
          refine m_get F hI 15 (by decide) rfl flX2_44 dX2_set_141 ?_
          refine lv_bipush (v := nI 7) hx hb dX2_set_144 (by decide) ?_
          refine lv_iload hx hb dX2_set_146 (lv_at hl 0 rfl) ?_
          refine lv_imul hx hb dX2_set_148 ?_
          refine ktop (y := nI (7 * i)) (pk_mul _ _) ?_
          refine lv_bipush (v := nI 6) hx hb dX2_set_149 (by decide) ?_
          refine lv_iadd hx hb dX2_set_151 ?_
          refine ktop (y := nI ((7 * i) + 6)) (nI_add _ _) ?_
          refine lv_dup2_11 hx hb dX2_set_152 rfl rfl ?_
          refine m_ald F hI  11 (show ((7 * i) + 6) < 35 by omega) rfl dX2_set_153 ?_
          refine lv_aload_n hx hb dX2_set_154 rfl (lv_at hl 2 rfl) ?_
          refine m_get F hI 15 (by decide) rfl flX2_44 dX2_set_155 ?_
          refine lv_bipush (v := nI 7) hx hb dX2_set_158 (by decide) ?_
          refine lv_iload hx hb dX2_set_160 (lv_at hl 0 rfl) ?_
          refine lv_imul hx hb dX2_set_162 ?_
          refine ktop (y := nI (7 * i)) (pk_mul _ _) ?_
          refine lv_iconst (v := nI 5) hx hb dX2_set_163 (by decide) ?_
          refine lv_iadd hx hb dX2_set_164 ?_
          refine ktop (y := nI ((7 * i) + 5)) (nI_add _ _) ?_
          refine m_ald F hI  11 (show ((7 * i) + 5) < 35 by omega) rfl dX2_set_165 ?_
          refine lv_iadd hx hb dX2_set_166 ?_
          refine m_ast F hI 11 (show ((7 * i) + 6) < 35 by omega) rfl dX2_set_167 (fun H locs hI => ?_)
          refine lv_aload_n hx hb dX2_set_168 rfl (lv_at hl 2 rfl) ?_
          refine m_get F hI 15 (by decide) rfl flX2_44 dX2_set_169 ?_
          refine lv_bipush (v := nI 7) hx hb dX2_set_172 (by decide) ?_
          refine lv_iload hx hb dX2_set_174 (lv_at hl 0 rfl) ?_
          refine lv_imul hx hb dX2_set_176 ?_
          refine ktop (y := nI (7 * i)) (pk_mul _ _) ?_
          refine lv_iconst (v := nI 5) hx hb dX2_set_177 (by decide) ?_
          refine lv_iadd hx hb dX2_set_178 ?_
          refine ktop (y := nI ((7 * i) + 5)) (nI_add _ _) ?_
          refine lv_iconst (v := nI 0) hx hb dX2_set_179 (by decide) ?_
          refine m_ast F hI 11 (show ((7 * i) + 5) < 35 by omega) rfl dX2_set_180 (fun H locs hI => ?_)
          refine lv_iinc (v := nI (i + 1)) (lv' := [(5, .int _), (4, .int _), (0, .ref _), (1, .int _), (2, .int _)]) hx hb dX2_set_181 hl (k := 0) rfl (kinc _ 1) (by decide) rfl (fun ls hl => ?_)
          refine lv_goto (tgt := 124) hx hb dX2_set_184 (by decide) ?_
          exact ih (f, i + 1, mset (mset u 11 (7 * i + 6) (u.1 11 (7 * i + 6) + u.1 11 (7 * i + 5))) 11 (7 * i + 5) (nI 0)) _ _ _ (by show f < f + 1; omega) ⟨by show i + 1 + f = _; omega, fun q => he q, fun q => absurd ⟨z0.mp c131, c137⟩ q, hI, lv_sub hl [0, 1, 2, 3, 4] rfl⟩
  refine lv_aload_n hx hb dX2_set_0 rfl (lv_at hl 0 rfl) ?_
  refine lv_iconst (v := nI 0) hx hb dX2_set_1 (by decide) ?_
  refine m_putTh F hI flX2_53 dX2_set_2 (fun H locs hI => ?_)
  refine lv_iload_n hx hb dX2_set_5 rfl (lv_at hl 1 rfl) ?_
  refine lv_if_ne (tgt := 19) hx hb dX2_set_6 (by decide) (fun c6 => ?_) (fun c6 => ?_)
  ·
    rw [z0] at c6
    refine lv_iload_n hx hb dX2_set_19 rfl (lv_at hl 1 rfl) ?_
    refine lv_iconst (v := nI 1) hx hb dX2_set_20 (by decide) ?_
    refine lv_icmp_ne (tgt := 35) hx hb dX2_set_21 (by decide) (fun c21 => ?_) (fun c21 => ?_)
    ·
      rw [nI_eq (by omega) (by omega)] at c21
      refine lv_iload_n hx hb dX2_set_35 rfl (lv_at hl 1 rfl) ?_
      refine lv_iconst (v := nI 2) hx hb dX2_set_36 (by decide) ?_
      refine lv_icmp_ne (tgt := 50) hx hb dX2_set_37 (by decide) (fun c37 => ?_) (fun c37 => ?_)
      ·
        rw [nI_eq (by omega) (by omega)] at c37
        refine lv_iload_n hx hb dX2_set_50 rfl (lv_at hl 1 rfl) ?_
        refine lv_iconst (v := nI 3) hx hb dX2_set_51 (by decide) ?_
        refine lv_icmp_ne (tgt := 64) hx hb dX2_set_52 (by decide) (fun c52 => ?_) (fun c52 => ?_)
        ·
          rw [nI_eq (by omega) (by omega)] at c52
          refine lv_iload_n hx hb dX2_set_64 rfl (lv_at hl 1 rfl) ?_
          refine lv_iconst (v := nI 4) hx hb dX2_set_65 (by decide) ?_
          refine lv_icmp_ne (tgt := 79) hx hb dX2_set_66 (by decide) (fun c66 => ?_) (fun c66 => ?_)
          ·
            rw [nI_eq (by omega) (by omega)] at c66
            refine lv_iload_n hx hb dX2_set_79 rfl (lv_at hl 1 rfl) ?_
            refine lv_iconst (v := nI 5) hx hb dX2_set_80 (by decide) ?_
            refine lv_icmp_ne (tgt := 98) hx hb dX2_set_81 (by decide) (fun c81 => absurd c81 (fun q => q (congrArg nI (show w = 5 by omega)))) (fun c81 => ?_)
            rw [nI_eq (by omega) (by omega)] at c81
            refine lv_iload_n hx hb dX2_set_84 rfl (lv_at hl 2 rfl) ?_
            refine lv_iconst (v := nI 0) hx hb dX2_set_85 (by decide) ?_
            refine lv_bipush (v := nI 20) hx hb dX2_set_86 (by decide) ?_
            refine kcallS (rest := []) F hA hI (mc_in l _ _ _ _) kgX2_57 hl.1 rfl rfl (Nat.le_of_ble_eq_true rfl) dX2_set_88 ⟨Nat.le_of_ble_eq_true rfl, Nat.le_of_ble_eq_true rfl⟩ ⟨Nat.le_of_ble_eq_true rfl, Nat.le_of_ble_eq_true rfl⟩ (fun vq uq H locs hp hI => ?_)
            obtain ⟨rfl, hu⟩ := hp
            rw [hu] at hI
            clear hu
            refine kstk (b := .int _ :: []) rfl ?_
            refine lv_if_eq (tgt := 98) hx hb dX2_set_91 (by decide) (fun c91 => absurd c91 (fun q => by rw [bI_z] at q; simp [q, c6, c21, c37, c52, c66] at h)) (fun c91 => ?_)
            refine lv_iconst (v := nI 1) hx hb dX2_set_94 (by decide) ?_
            refine lv_goto (tgt := 99) hx hb dX2_set_95 (by decide) ?_
            refine lv_istore_n (lv' := [(3, .int _), (0, .ref _), (1, .int _), (2, .int _)]) hx hb dX2_set_99 rfl hl (by decide) rfl (fun ls hl => ?_)
            refine lv_iload_n hx hb dX2_set_100 rfl (lv_at hl 0 rfl) ?_
            refine lv_if_ne (tgt := 106) hx hb dX2_set_101 (by decide) (fun c101 => ?_) (fun c101 => absurd c101 (by decide))
            exact fin _ _ _ hI (lv_sub hl [1, 2, 3] rfl)
          ·
            rw [nI_eq (by omega) (by omega)] at c66
            refine lv_iload_n hx hb dX2_set_69 rfl (lv_at hl 2 rfl) ?_
            refine lv_iconst (v := nI 1) hx hb dX2_set_70 (by decide) ?_
            refine lv_bipush (v := nI 20) hx hb dX2_set_71 (by decide) ?_
            refine kcallS (rest := []) F hA hI (mc_in l _ _ _ _) kgX2_57 hl.1 rfl rfl (Nat.le_of_ble_eq_true rfl) dX2_set_73 ⟨Nat.le_of_ble_eq_true rfl, Nat.le_of_ble_eq_true rfl⟩ ⟨Nat.le_of_ble_eq_true rfl, Nat.le_of_ble_eq_true rfl⟩ (fun vq uq H locs hp hI => ?_)
            obtain ⟨rfl, hu⟩ := hp
            rw [hu] at hI
            clear hu
            refine kstk (b := .int _ :: []) rfl ?_
            refine lv_goto (tgt := 99) hx hb dX2_set_76 (by decide) ?_
            refine lv_istore_n (lv' := [(3, .int _), (0, .ref _), (1, .int _), (2, .int _)]) hx hb dX2_set_99 rfl hl (by decide) rfl (fun ls hl => ?_)
            refine lv_iload_n hx hb dX2_set_100 rfl (lv_at hl 0 rfl) ?_
            refine lv_if_ne (tgt := 106) hx hb dX2_set_101 (by decide) (fun c101 => ?_) (fun c101 => absurd c101 (fun q => by rw [bI_z] at q; simp [q, c6, c21, c37, c52, c66] at h))
            exact fin _ _ _ hI (lv_sub hl [1, 2, 3] rfl)
        ·
          rw [nI_eq (by omega) (by omega)] at c52
          refine lv_iload_n hx hb dX2_set_55 rfl (lv_at hl 2 rfl) ?_
          refine lv_iconst (v := nI 0) hx hb dX2_set_56 (by decide) ?_
          refine lv_iconst (v := nI 1) hx hb dX2_set_57 (by decide) ?_
          refine kcallS (rest := []) F hA hI (mc_in l _ _ _ _) kgX2_57 hl.1 rfl rfl (Nat.le_of_ble_eq_true rfl) dX2_set_58 ⟨Nat.le_of_ble_eq_true rfl, Nat.le_of_ble_eq_true rfl⟩ ⟨Nat.le_of_ble_eq_true rfl, Nat.le_of_ble_eq_true rfl⟩ (fun vq uq H locs hp hI => ?_)
          obtain ⟨rfl, hu⟩ := hp
          rw [hu] at hI
          clear hu
          refine kstk (b := .int _ :: []) rfl ?_
          refine lv_goto (tgt := 99) hx hb dX2_set_61 (by decide) ?_
          refine lv_istore_n (lv' := [(3, .int _), (0, .ref _), (1, .int _), (2, .int _)]) hx hb dX2_set_99 rfl hl (by decide) rfl (fun ls hl => ?_)
          refine lv_iload_n hx hb dX2_set_100 rfl (lv_at hl 0 rfl) ?_
          refine lv_if_ne (tgt := 106) hx hb dX2_set_101 (by decide) (fun c101 => ?_) (fun c101 => absurd c101 (fun q => by rw [bI_z] at q; simp [q, c6, c21, c37, c52] at h))
          exact fin _ _ _ hI (lv_sub hl [1, 2, 3] rfl)
      ·
        rw [nI_eq (by omega) (by omega)] at c37
        refine lv_iload_n hx hb dX2_set_40 rfl (lv_at hl 2 rfl) ?_
        refine lv_iconst (v := nI 0) hx hb dX2_set_41 (by decide) ?_
        refine lv_bipush (v := nI 9) hx hb dX2_set_42 (by decide) ?_
        refine kcallS (rest := []) F hA hI (mc_in l _ _ _ _) kgX2_57 hl.1 rfl rfl (Nat.le_of_ble_eq_true rfl) dX2_set_44 ⟨Nat.le_of_ble_eq_true rfl, Nat.le_of_ble_eq_true rfl⟩ ⟨Nat.le_of_ble_eq_true rfl, Nat.le_of_ble_eq_true rfl⟩ (fun vq uq H locs hp hI => ?_)
        obtain ⟨rfl, hu⟩ := hp
        rw [hu] at hI
        clear hu
        refine kstk (b := .int _ :: []) rfl ?_
        refine lv_goto (tgt := 99) hx hb dX2_set_47 (by decide) ?_
        refine lv_istore_n (lv' := [(3, .int _), (0, .ref _), (1, .int _), (2, .int _)]) hx hb dX2_set_99 rfl hl (by decide) rfl (fun ls hl => ?_)
        refine lv_iload_n hx hb dX2_set_100 rfl (lv_at hl 0 rfl) ?_
        refine lv_if_ne (tgt := 106) hx hb dX2_set_101 (by decide) (fun c101 => ?_) (fun c101 => absurd c101 (fun q => by rw [bI_z] at q; simp [q, c6, c21, c37] at h))
        exact fin _ _ _ hI (lv_sub hl [1, 2, 3] rfl)
    ·
      rw [nI_eq (by omega) (by omega)] at c21
      refine lv_iload_n hx hb dX2_set_24 rfl (lv_at hl 2 rfl) ?_
      refine lv_iconst (v := nI 1) hx hb dX2_set_25 (by decide) ?_
      refine lv_sipush (v := nI 8000) hx hb dX2_set_26 (by decide) ?_
      refine kcallS (rest := []) F hA hI (mc_in l _ _ _ _) kgX2_57 hl.1 rfl rfl (Nat.le_of_ble_eq_true rfl) dX2_set_29 ⟨Nat.le_of_ble_eq_true rfl, Nat.le_of_ble_eq_true rfl⟩ ⟨Nat.le_of_ble_eq_true rfl, Nat.le_of_ble_eq_true rfl⟩ (fun vq uq H locs hp hI => ?_)
      obtain ⟨rfl, hu⟩ := hp
      rw [hu] at hI
      clear hu
      refine kstk (b := .int _ :: []) rfl ?_
      refine lv_goto (tgt := 99) hx hb dX2_set_32 (by decide) ?_
      refine lv_istore_n (lv' := [(3, .int _), (0, .ref _), (1, .int _), (2, .int _)]) hx hb dX2_set_99 rfl hl (by decide) rfl (fun ls hl => ?_)
      refine lv_iload_n hx hb dX2_set_100 rfl (lv_at hl 0 rfl) ?_
      refine lv_if_ne (tgt := 106) hx hb dX2_set_101 (by decide) (fun c101 => ?_) (fun c101 => absurd c101 (fun q => by rw [bI_z] at q; simp [q, c6, c21] at h))
      exact fin _ _ _ hI (lv_sub hl [1, 2, 3] rfl)
  ·
    rw [z0] at c6
    refine lv_iload_n hx hb dX2_set_9 rfl (lv_at hl 2 rfl) ?_
    refine lv_iconst (v := nI 1) hx hb dX2_set_10 (by decide) ?_
    refine lv_bipush (v := nI 9) hx hb dX2_set_11 (by decide) ?_
    refine kcallS (rest := []) F hA hI (mc_in l _ _ _ _) kgX2_57 hl.1 rfl rfl (Nat.le_of_ble_eq_true rfl) dX2_set_13 ⟨Nat.le_of_ble_eq_true rfl, Nat.le_of_ble_eq_true rfl⟩ ⟨Nat.le_of_ble_eq_true rfl, Nat.le_of_ble_eq_true rfl⟩ (fun vq uq H locs hp hI => ?_)
    obtain ⟨rfl, hu⟩ := hp
    rw [hu] at hI
    clear hu
    refine kstk (b := .int _ :: []) rfl ?_
    refine lv_goto (tgt := 99) hx hb dX2_set_16 (by decide) ?_
    refine lv_istore_n (lv' := [(3, .int _), (0, .ref _), (1, .int _), (2, .int _)]) hx hb dX2_set_99 rfl hl (by decide) rfl (fun ls hl => ?_)
    refine lv_iload_n hx hb dX2_set_100 rfl (lv_at hl 0 rfl) ?_
    refine lv_if_ne (tgt := 106) hx hb dX2_set_101 (by decide) (fun c101 => ?_) (fun c101 => absurd c101 (fun q => by rw [bI_z] at q; simp [q, c6] at h))
    exact fin _ _ _ hI (lv_sub hl [1, 2, 3] rfl)
end MC2
end
section
/-! the reference: decides, joins, comes, piece, tick -/
def m_odd (st : MS) (n pq : Nat) (il : Bool) : Prop := (¬ st.1 6 n = -9 ∧ (st.1 6 n < nI pq ∨ il = true)) ∨ (il = true ∧ ¬ st.1 3 n >>> (nI pq &&& 31) = 0)
noncomputable def m_odB (st : MS) (n pq : Nat) (il : Bool) : Bool := (Classical.propDecidable (m_odd st n pq il)).decide
def mor (st : MS) (k i : Nat) (v : Int32) : MS := mset st k i (st.1 k i ||| v)
def mlast (st : MS) (n pq : Nat) (il : Bool) : MS := mset st 6 n (if il = true then nI pq else st.1 6 n)
def m_jn (st : MS) (n pq : Nat) (il : Bool) (z : Nat) : MS := mlast (madd (mor st 3 n (nI 1 <<< (nI pq &&& 31))) 5 n (nI z)) n pq il
noncomputable def m_joins (st : MS) (n pq : Nat) (il : Bool) (z : Nat) : Nat × MS :=
  if (st.1 3 n >>> (nI pq &&& 31)) &&& nI 1 = nI 1 then (3, st)
  else if m_odB st n pq il = true then (4, st)
  else
    if ¬ (m_jn st n pq il z).1 6 n = -9 ∧ (m_jn st n pq il z).1 3 n = (nI 1 <<< (((m_jn st n pq il z).1 6 n + nI 1) &&& 31)) - nI 1 then (2, m_dec (m_jn st n pq il z) n false) else (1, m_jn st n pq il z)
theorem m_odT {st : MS} {n pq : Nat} {il : Bool} (h : m_odd st n pq il) : m_odB st n pq il = true := by
  unfold m_odB
  exact @decide_eq_true _ (Classical.propDecidable _) h
theorem m_odF {st : MS} {n pq : Nat} {il : Bool} (h : ¬ m_odd st n pq il) : ¬ m_odB st n pq il = true := by
  unfold m_odB
  intro q
  exact h (@of_decide_eq_true _ (Classical.propDecidable _) q)
def m_late (st : MS) (pq z i : Nat) : MS := madd (mor st 10 (8 * i + 1) (nI 1 <<< (nI pq &&& 31))) 10 (8 * i + 3) (nI z)
def m_first (st : MS) (n sh : Nat) : MS := mnw (mset (mset (mset (mset (mset st 2 n (hm (m_up st) n)) 3 n (nI 0)) 4 n (nI sh)) 5 n (nI 0)) 6 n (-9)) 7 n
noncomputable def m_comes (st : MS) (n pq : Nat) (il : Bool) (sh z : Nat) : Nat × MS :=
  if hm (m_up st) n = -9 then (7, st)
  else if ¬ st.1 2 n = -9 then m_joins st n pq il z
  else if m_known st n = true then
    if m_keptAt st n = -9 ∨ st.1 1 5 < st.2.1 - st.1 9 n ∨ (st.1 10 (8 * (m_keptAt st n).toNatClampNeg + 1) >>> (nI pq &&& 31)) &&& nI 1 = nI 1 then (6, st)
    else (5, m_late st pq z (m_keptAt st n).toNatClampNeg)
  else if m_wm st = nI 24 then (7, st)
  else m_joins (m_first st n sh) n pq il z
noncomputable def m_piece (st : MS) (n pq : Nat) (il : Bool) (sh z : Nat) : Nat × MS :=
  let r := m_comes st n pq il sh z
  if 3 ≤ r.1 then (r.1, m_inc r.2 13 (r.1 + 2)) else r
theorem m_joins_le (st : MS) (n pq : Nat) (il : Bool) (z : Nat) : (m_joins st n pq il z).1 ≤ 7 := by
  unfold m_joins
  repeat' split
  all_goals (dsimp only; omega)
theorem m_comes_le (st : MS) (n pq : Nat) (il : Bool) (sh z : Nat) : (m_comes st n pq il sh z).1 ≤ 7 := by
  unfold m_comes
  repeat' split
  all_goals first | exact m_joins_le _ _ _ _ _ | (dsimp only; omega)
theorem m_keptL_cases (st : MS) (n : Nat) : ∀ f i : Nat, m_keptL st n f i = -9 ∨ ∃ j, i ≤ j ∧ j < i + f ∧ m_keptL st n f i = nI j := by
  intro f
  induction f with
  | zero => intro i; exact Or.inl rfl
  | succ f ih =>
    intro i
    unfold m_keptL
    split
    · exact Or.inr ⟨i, by omega, by omega, rfl⟩
    · rcases ih (i + 1) with h | ⟨j, h1, h2, h3⟩
      · exact Or.inl h
      · exact Or.inr ⟨j, by omega, by omega, h3⟩
theorem m_keptAt_cases (st : MS) (n : Nat) : m_keptAt st n = -9 ∨ ∃ j, j < st.2.2.2 ∧ m_keptAt st n = nI j := by
  rcases m_keptL_cases st n st.2.2.2 0 with h | ⟨j, h1, h2, h3⟩
  · exact Or.inl h
  · exact Or.inr ⟨j, by omega, h3⟩
theorem nI_n9 {j : Nat} (h : j < 2 ^ 31) : ¬ nI j = -9 := by
  intro q
  have h1 := nI_toInt h
  rw [q] at h1
  have h2 : (-9 : Int32).toInt = -9 := by decide
  omega
section MC3
variable (l : Launch) {D : va_G} {g : Nat → Nat} {K : Nat → ClassId}
theorem mc_decides (st : MS) (n sh z : Nat) (tn : Bool) (hn : n < 100) (hs : sh < 5) (hz : z < 8192) (h4 : st.1 4 n = nI sh) (h5 : st.1 5 n = nI z) (hkm : st.2.2.2 ≤ 20) : kM l yX2_decides cX2_decides 8 none 1 23 0 0 D (mty K) (mw g K) [.ref (g 0), .int (nI n), .int (bI tn)] st (fun v u => v = none ∧ u = m_dec st n tn) := by
  have hdef : m_dec st n tn = m_decS st n sh z tn := by unfold m_dec; rw [h4, h5, nI_clamp (by omega), nI_clamp (by omega)]
  refine kM_intro (by decide) (Nat.le_of_ble_eq_true rfl) ?_
  intro p e s m below meth c A ls F hA hI hl
  obtain ⟨hx, hb, hr, hml, hown, hts, hlk, hK, hnm⟩ := id F
  have hl : lv_has ls 8 [(0, .ref (g 0)), (1, .int (nI n)), (2, .int (bI tn))] := hl
  generalize hw : m_weight st sh (nI z) tn = w
  have hwo : m_only st w.2 := by rw [← hw]; exact m_only_weight st sh (nI z) tn
  have hw5 : w.2.1 5 n = nI z := by rw [hwo.1 5 (by decide)]; exact h5
  have hwk : w.2.2.2.2 ≤ 20 := by rw [hwo.2.2]; exact hkm
  have hfin : m_dec st n tn = m_keep (m_decA w.2 n sh z tn) n sh tn w.1 := by rw [hdef, m_decS, hw]
  have h63 : ∀ (H : Heap) (locs : List Loc) (ls : Array Slot), kI D (mw g K) A s.heap (m_inc w.2 11 (7 * sh)) H locs → lv_has ls 8 [(5, .int (nI (stp z))), (4, .int w.1), (3, .int (nI sh)), (0, .ref (g 0)), (1, .int (nI n)), (2, .int (bI tn))] → W p l e { frames := 1, cells := 0, slots := 0, locals := 23 } s m #[.ref (g 0), .int (nI n), .int (bI tn)] below meth c H locs 0 0 (MQ below (kQ D (mty K) (mw g K) (fun v u => v = none ∧ u = m_dec st n tn) A) #[.ref (g 0), .int (nI n), .int (bI tn)] s 0 0 A) (F0 m 63 ls []) := by
    intro H locs ls hI hl
    have h135 : ∀ (u : MS) (H : Heap) (locs : List Loc) (ls : Array Slot), kI D (mw g K) A s.heap u H locs → u.2.2.2 = w.2.2.2.2 → m_keep u n sh tn w.1 = m_dec st n tn → lv_has ls 8 [(4, .int w.1), (3, .int (nI sh)), (0, .ref (g 0)), (1, .int (nI n)), (2, .int (bI tn))] → W p l e { frames := 1, cells := 0, slots := 0, locals := 23 } s m #[.ref (g 0), .int (nI n), .int (bI tn)] below meth c H locs 0 0 (MQ below (kQ D (mty K) (mw g K) (fun v u => v = none ∧ u = m_dec st n tn) A) #[.ref (g 0), .int (nI n), .int (bI tn)] s 0 0 A) (F0 m 135 ls []) := by
      intro u H locs ls hI huk hfu hl
      generalize hkk : u.2.2.2 = km at huk
      have hk20 : km ≤ 20 := by omega
      have h259 : ∀ (u2 : MS) (H : Heap) (locs : List Loc) (ls : Array Slot), kI D (mw g K) A s.heap u2 H locs → u2.2.2.2 = km → km < 20 → madd (mkm (mcp (mnw u2 10 (8 * km + 6)) 10 (8 * km + 7) 13 10) (km + 1)) 11 (7 * sh + 1) w.1 = m_dec st n tn → lv_has ls 8 [(7, .int (nI (8 * km))), (4, .int w.1), (3, .int (nI sh)), (0, .ref (g 0)), (1, .int (nI n)), (2, .int (bI tn))] → W p l e { frames := 1, cells := 0, slots := 0, locals := 23 } s m #[.ref (g 0), .int (nI n), .int (bI tn)] below meth c H locs 0 0 (MQ below (kQ D (mty K) (mw g K) (fun v u => v = none ∧ u = m_dec st n tn) A) #[.ref (g 0), .int (nI n), .int (bI tn)] s 0 0 A) (F0 m 259 ls []) := by
        intro u2 H locs ls hI huk2 hk21 hfu2 hl
        refine lv_aload_n hx hb dX2_decides_259 rfl (lv_at hl 3 rfl) ?_
        refine m_get F hI 13 (by decide) rfl flX2_41 dX2_decides_260 ?_
        refine lv_iload hx hb dX2_decides_263 (lv_at hl 0 rfl) ?_
        refine lv_bipush (v := nI 6) hx hb dX2_decides_265 (by decide) ?_
        refine lv_iadd hx hb dX2_decides_267 ?_
        refine ktop (y := nI ((8 * km) + 6)) (nI_add _ _) ?_
        refine lv_aload_n hx hb dX2_decides_268 rfl (lv_at hl 3 rfl) ?_
        refine m_get F hI 1 (by decide) rfl flX2_79 dX2_decides_269 ?_
        refine m_ast F hI 10 (show ((8 * km) + 6) < 160 by omega) rfl dX2_decides_272 (fun H locs hI => ?_)
        have hI : kI D _ A s.heap (mnw u2 10 (8 * km + 6)) H locs := hI
        generalize hS272 : mnw u2 10 (8 * km + 6) = S272 at hI
        refine lv_aload_n hx hb dX2_decides_273 rfl (lv_at hl 3 rfl) ?_
        refine m_get F hI 13 (by decide) rfl flX2_41 dX2_decides_274 ?_
        refine lv_iload hx hb dX2_decides_277 (lv_at hl 0 rfl) ?_
        refine lv_bipush (v := nI 7) hx hb dX2_decides_279 (by decide) ?_
        refine lv_iadd hx hb dX2_decides_281 ?_
        refine ktop (y := nI ((8 * km) + 7)) (nI_add _ _) ?_
        refine lv_aload_n hx hb dX2_decides_282 rfl (lv_at hl 3 rfl) ?_
        refine m_get F hI 17 (by decide) rfl flX2_50 dX2_decides_283 ?_
        refine lv_bipush (v := nI 10) hx hb dX2_decides_286 (by decide) ?_
        refine m_ald F hI  13 (show 10 < 13 by omega) rfl dX2_decides_288 ?_
        refine m_ast F hI 10 (show ((8 * km) + 7) < 160 by omega) rfl dX2_decides_289 (fun H locs hI => ?_)
        have hI : kI D _ A s.heap (mcp S272 10 (8 * km + 7) 13 10) H locs := hI
        generalize hS289 : mcp S272 10 (8 * km + 7) 13 10 = S289 at hI
        refine lv_aload_n hx hb dX2_decides_290 rfl (lv_at hl 3 rfl) ?_
        refine lv_dup hx hb dX2_decides_291 rfl ?_
        refine m_get F hI 14 (by decide) rfl flX2_82 dX2_decides_292 ?_
        refine ktop (y := nI (S289.2.2.2)) rfl ?_
        refine lv_iconst (v := nI 1) hx hb dX2_decides_295 (by decide) ?_
        refine lv_iadd hx hb dX2_decides_296 ?_
        refine ktop (y := nI ((S289.2.2.2) + 1)) (nI_add _ _) ?_
        refine ktop (y := nI (km + 1)) (by exact congrArg (fun q => nI (q + 1)) (by rw [← hS289, ← hS272]; exact huk2)) ?_
        refine m_putKm F hI flX2_82 dX2_decides_297 (fun H locs hI => ?_)
        have hI : kI D _ A s.heap (mkm S289 (km + 1)) H locs := hI
        generalize hS297 : mkm S289 (km + 1) = S297 at hI
        refine lv_aload_n hx hb dX2_decides_300 rfl (lv_at hl 3 rfl) ?_
        refine m_get F hI 15 (by decide) rfl flX2_44 dX2_decides_301 ?_
        refine lv_bipush (v := nI 7) hx hb dX2_decides_304 (by decide) ?_
        refine lv_iload_n hx hb dX2_decides_306 rfl (lv_at hl 2 rfl) ?_
        refine lv_imul hx hb dX2_decides_307 ?_
        refine ktop (y := nI (7 * sh)) (pk_mul _ _) ?_
        refine lv_iconst (v := nI 1) hx hb dX2_decides_308 (by decide) ?_
        refine lv_iadd hx hb dX2_decides_309 ?_
        refine ktop (y := nI ((7 * sh) + 1)) (nI_add _ _) ?_
        refine lv_dup2_11 hx hb dX2_decides_310 rfl rfl ?_
        refine m_ald F hI  11 (show ((7 * sh) + 1) < 35 by omega) rfl dX2_decides_311 ?_
        refine lv_iload hx hb dX2_decides_312 (lv_at hl 1 rfl) ?_
        refine lv_iadd hx hb dX2_decides_314 ?_
        refine m_ast F hI 11 (show ((7 * sh) + 1) < 35 by omega) rfl dX2_decides_315 (fun H locs hI => ?_)
        have hI : kI D _ A s.heap (madd S297 11 (7 * sh + 1) w.1) H locs := hI
        generalize hS315 : madd S297 11 (7 * sh + 1) w.1 = S315 at hI
        exact kret_v F hI dX2_decides_316 (⟨rfl, by rw [← hfu2, ← hS315, ← hS297, ← hS289, ← hS272]⟩)
      refine lv_iload hx hb dX2_decides_135 (lv_at hl 0 rfl) ?_
      refine lv_if_le (tgt := 168) hx hb dX2_decides_137 (by decide) (fun c137 => ?_) (fun c137 => ?_)
      ·
        refine lv_iload hx hb dX2_decides_168 (lv_at hl 0 rfl) ?_
        refine lv_if_le (tgt := 316) hx hb dX2_decides_170 (by decide) (fun c170 => ?_) (fun c170 => absurd c170 ((fun q => q c137)))
        exact kret_v F hI dX2_decides_316 (⟨rfl, by rw [← hfu, m_keep, if_pos c137]⟩)
      ·
        refine lv_aload_n hx hb dX2_decides_140 rfl (lv_at hl 2 rfl) ?_
        refine m_get F hI 14 (by decide) rfl flX2_82 dX2_decides_141 ?_
        refine ktop (y := nI (u.2.2.2)) rfl ?_
        refine ktop (y := nI (km)) (by exact congrArg nI hkk) ?_
        refine lv_bipush (v := nI 20) hx hb dX2_decides_144 (by decide) ?_
        refine lv_icmp_ne (tgt := 168) hx hb dX2_decides_146 (by decide) (fun c146 => ?_) (fun c146 => ?_)
        ·
          rw [nI_eq (by omega) (by omega)] at c146
          refine lv_iload hx hb dX2_decides_168 (lv_at hl 0 rfl) ?_
          refine lv_if_le (tgt := 316) hx hb dX2_decides_170 (by decide) (fun c170 => absurd c170 (c137)) (fun c170 => ?_)
          refine lv_bipush (v := nI 8) hx hb dX2_decides_173 (by decide) ?_
          refine lv_aload_n hx hb dX2_decides_175 rfl (lv_at hl 2 rfl) ?_
          refine m_get F hI 14 (by decide) rfl flX2_82 dX2_decides_176 ?_
          refine ktop (y := nI (u.2.2.2)) rfl ?_
          refine ktop (y := nI (km)) (by exact congrArg nI hkk) ?_
          refine lv_imul hx hb dX2_decides_179 ?_
          refine ktop (y := nI (8 * (km))) (pk_mul _ _) ?_
          refine lv_istore (lv' := [(7, .int _), (4, .int _), (3, .int _), (0, .ref _), (1, .int _), (2, .int _)]) hx hb dX2_decides_180 hl (by decide) rfl (fun ls hl => ?_)
          refine lv_aload_n hx hb dX2_decides_182 rfl (lv_at hl 3 rfl) ?_
          refine m_get F hI 13 (by decide) rfl flX2_41 dX2_decides_183 ?_
          refine lv_iload hx hb dX2_decides_186 (lv_at hl 0 rfl) ?_
          refine lv_iload_n hx hb dX2_decides_188 rfl (lv_at hl 4 rfl) ?_
          refine m_ast F hI 10 (show (8 * (km)) < 160 by omega) rfl dX2_decides_189 (fun H locs hI => ?_)
          have hI : kI D _ A s.heap (mset u 10 (8 * km) (nI n)) H locs := hI
          generalize hS189 : mset u 10 (8 * km) (nI n) = S189 at hI
          refine lv_aload_n hx hb dX2_decides_190 rfl (lv_at hl 3 rfl) ?_
          refine m_get F hI 13 (by decide) rfl flX2_41 dX2_decides_191 ?_
          refine lv_iload hx hb dX2_decides_194 (lv_at hl 0 rfl) ?_
          refine lv_iconst (v := nI 1) hx hb dX2_decides_196 (by decide) ?_
          refine lv_iadd hx hb dX2_decides_197 ?_
          refine ktop (y := nI ((8 * (km)) + 1)) (nI_add _ _) ?_
          refine lv_aload_n hx hb dX2_decides_198 rfl (lv_at hl 3 rfl) ?_
          refine m_get F hI 6 (by decide) rfl flX2_20 dX2_decides_199 ?_
          refine lv_iload_n hx hb dX2_decides_202 rfl (lv_at hl 4 rfl) ?_
          refine m_ald F hI  3 (show n < 100 by omega) rfl dX2_decides_203 ?_
          refine m_ast F hI 10 (show ((8 * (km)) + 1) < 160 by omega) rfl dX2_decides_204 (fun H locs hI => ?_)
          have hI : kI D _ A s.heap (mcp S189 10 (8 * km + 1) 3 n) H locs := hI
          generalize hS204 : mcp S189 10 (8 * km + 1) 3 n = S204 at hI
          refine lv_aload_n hx hb dX2_decides_205 rfl (lv_at hl 3 rfl) ?_
          refine m_get F hI 13 (by decide) rfl flX2_41 dX2_decides_206 ?_
          refine lv_iload hx hb dX2_decides_209 (lv_at hl 0 rfl) ?_
          refine lv_iconst (v := nI 2) hx hb dX2_decides_211 (by decide) ?_
          refine lv_iadd hx hb dX2_decides_212 ?_
          refine ktop (y := nI ((8 * (km)) + 2)) (nI_add _ _) ?_
          refine lv_iload_n hx hb dX2_decides_213 rfl (lv_at hl 2 rfl) ?_
          refine m_ast F hI 10 (show ((8 * (km)) + 2) < 160 by omega) rfl dX2_decides_214 (fun H locs hI => ?_)
          have hI : kI D _ A s.heap (mset S204 10 (8 * km + 2) (nI sh)) H locs := hI
          generalize hS214 : mset S204 10 (8 * km + 2) (nI sh) = S214 at hI
          refine lv_aload_n hx hb dX2_decides_215 rfl (lv_at hl 3 rfl) ?_
          refine m_get F hI 13 (by decide) rfl flX2_41 dX2_decides_216 ?_
          refine lv_iload hx hb dX2_decides_219 (lv_at hl 0 rfl) ?_
          refine lv_iconst (v := nI 3) hx hb dX2_decides_221 (by decide) ?_
          refine lv_iadd hx hb dX2_decides_222 ?_
          refine ktop (y := nI ((8 * (km)) + 3)) (nI_add _ _) ?_
          refine lv_aload_n hx hb dX2_decides_223 rfl (lv_at hl 3 rfl) ?_
          refine m_get F hI 8 (by decide) rfl flX2_26 dX2_decides_224 ?_
          refine lv_iload_n hx hb dX2_decides_227 rfl (lv_at hl 4 rfl) ?_
          refine m_ald F hI  5 (show n < 100 by omega) rfl dX2_decides_228 ?_
          refine m_ast F hI 10 (show ((8 * (km)) + 3) < 160 by omega) rfl dX2_decides_229 (fun H locs hI => ?_)
          have hI : kI D _ A s.heap (mcp S214 10 (8 * km + 3) 5 n) H locs := hI
          generalize hS229 : mcp S214 10 (8 * km + 3) 5 n = S229 at hI
          refine lv_aload_n hx hb dX2_decides_230 rfl (lv_at hl 3 rfl) ?_
          refine m_get F hI 13 (by decide) rfl flX2_41 dX2_decides_231 ?_
          refine lv_iload hx hb dX2_decides_234 (lv_at hl 0 rfl) ?_
          refine lv_iconst (v := nI 4) hx hb dX2_decides_236 (by decide) ?_
          refine lv_iadd hx hb dX2_decides_237 ?_
          refine ktop (y := nI ((8 * (km)) + 4)) (nI_add _ _) ?_
          refine lv_iload hx hb dX2_decides_238 (lv_at hl 1 rfl) ?_
          refine m_ast F hI 10 (show ((8 * (km)) + 4) < 160 by omega) rfl dX2_decides_240 (fun H locs hI => ?_)
          have hI : kI D _ A s.heap (mset S229 10 (8 * km + 4) w.1) H locs := hI
          generalize hS240 : mset S229 10 (8 * km + 4) w.1 = S240 at hI
          refine lv_aload_n hx hb dX2_decides_241 rfl (lv_at hl 3 rfl) ?_
          refine m_get F hI 13 (by decide) rfl flX2_41 dX2_decides_242 ?_
          refine lv_iload hx hb dX2_decides_245 (lv_at hl 0 rfl) ?_
          refine lv_iconst (v := nI 5) hx hb dX2_decides_247 (by decide) ?_
          refine lv_iadd hx hb dX2_decides_248 ?_
          refine ktop (y := nI ((8 * (km)) + 5)) (nI_add _ _) ?_
          refine lv_iload_n hx hb dX2_decides_249 rfl (lv_at hl 5 rfl) ?_
          refine lv_if_eq (tgt := 257) hx hb dX2_decides_250 (by decide) (fun c250 => ?_) (fun c250 => ?_)
          ·
            refine lv_iconst (v := nI 0) hx hb dX2_decides_257 (by decide) ?_
            have ht : bI tn = nI 0 := c250
            refine m_ast F hI 10 (show 8 * km + 5 < 160 by omega) rfl dX2_decides_258 (fun H locs hI => ?_)
            exact h259 _ _ _ _ hI (by rw [← hS240, ← hS229, ← hS214, ← hS204, ← hS189]; exact hkk) (by omega) (by rw [← hfu, m_keep, if_neg c137, if_neg (show ¬ u.2.2.2 = 20 by omega), m_row, hkk, m_rowK, ht, ← hS240, ← hS229, ← hS214, ← hS204, ← hS189]) (lv_sub hl [0, 1, 2, 3, 4, 5] rfl)
          ·
            refine lv_iconst (v := nI 1) hx hb dX2_decides_253 (by decide) ?_
            refine lv_goto (tgt := 258) hx hb dX2_decides_254 (by decide) ?_
            have ht : bI tn = nI 1 := by cases tn; exact absurd rfl c250; rfl
            refine m_ast F hI 10 (show 8 * km + 5 < 160 by omega) rfl dX2_decides_258 (fun H locs hI => ?_)
            exact h259 _ _ _ _ hI (by rw [← hS240, ← hS229, ← hS214, ← hS204, ← hS189]; exact hkk) (by omega) (by rw [← hfu, m_keep, if_neg c137, if_neg (show ¬ u.2.2.2 = 20 by omega), m_row, hkk, m_rowK, ht, ← hS240, ← hS229, ← hS214, ← hS204, ← hS189]) (lv_sub hl [0, 1, 2, 3, 4, 5] rfl)
        ·
          rw [nI_eq (by omega) (by omega)] at c146
          refine lv_aload_n hx hb dX2_decides_149 rfl (lv_at hl 2 rfl) ?_
          refine m_get F hI 15 (by decide) rfl flX2_44 dX2_decides_150 ?_
          refine lv_bipush (v := nI 7) hx hb dX2_decides_153 (by decide) ?_
          refine lv_iload_n hx hb dX2_decides_155 rfl (lv_at hl 1 rfl) ?_
          refine lv_imul hx hb dX2_decides_156 ?_
          refine ktop (y := nI (7 * sh)) (pk_mul _ _) ?_
          refine lv_iconst (v := nI 3) hx hb dX2_decides_157 (by decide) ?_
          refine lv_iadd hx hb dX2_decides_158 ?_
          refine ktop (y := nI ((7 * sh) + 3)) (nI_add _ _) ?_
          refine lv_dup2_11 hx hb dX2_decides_159 rfl rfl ?_
          refine m_ald F hI  11 (show ((7 * sh) + 3) < 35 by omega) rfl dX2_decides_160 ?_
          refine lv_iload hx hb dX2_decides_161 (lv_at hl 0 rfl) ?_
          refine lv_iadd hx hb dX2_decides_163 ?_
          refine m_ast F hI 11 (show ((7 * sh) + 3) < 35 by omega) rfl dX2_decides_164 (fun H locs hI => ?_)
          refine lv_goto (tgt := 316) hx hb dX2_decides_165 (by decide) ?_
          exact kret_v F hI dX2_decides_316 (⟨rfl, by rw [← hfu, m_keep, if_neg c137, if_pos (show u.2.2.2 = 20 by omega)]; rfl⟩)
    have h104 : ∀ (u : MS) (H : Heap) (locs : List Loc) (ls : Array Slot), kI D (mw g K) A s.heap u H locs → u = madd (m_inc (m_inc (m_inc w.2 11 (7 * sh)) 12 (stp z)) 13 10) 13 11 (bI tn) → lv_has ls 8 [(5, .int (nI (stp z))), (4, .int w.1), (3, .int (nI sh)), (0, .ref (g 0)), (1, .int (nI n)), (2, .int (bI tn))] → W p l e { frames := 1, cells := 0, slots := 0, locals := 23 } s m #[.ref (g 0), .int (nI n), .int (bI tn)] below meth c H locs 0 0 (MQ below (kQ D (mty K) (mw g K) (fun v u => v = none ∧ u = m_dec st n tn) A) #[.ref (g 0), .int (nI n), .int (bI tn)] s 0 0 A) (F0 m 104 ls []) := by
      intro u H locs ls hI hu hl
      refine lv_aload_n hx hb dX2_decides_104 rfl (lv_at hl 3 rfl) ?_
      refine m_get F hI 5 (by decide) rfl flX2_17 dX2_decides_105 ?_
      refine lv_iload_n hx hb dX2_decides_108 rfl (lv_at hl 4 rfl) ?_
      refine lv_bipush (v := -9) hx hb dX2_decides_109 (by decide) ?_
      refine m_ast F hI 2 (show n < 100 by omega) rfl dX2_decides_111 (fun H locs hI => ?_)
      have hI : kI D _ A s.heap (mset u 2 n (-9)) H locs := hI
      generalize hS111 : mset u 2 n (-9) = S111 at hI
      refine lv_aload_n hx hb dX2_decides_112 rfl (lv_at hl 3 rfl) ?_
      refine m_get F hI 11 (by decide) rfl flX2_35 dX2_decides_113 ?_
      refine lv_iload_n hx hb dX2_decides_116 rfl (lv_at hl 4 rfl) ?_
      refine lv_aload_n hx hb dX2_decides_117 rfl (lv_at hl 3 rfl) ?_
      refine m_get F hI 17 (by decide) rfl flX2_50 dX2_decides_118 ?_
      refine lv_bipush (v := nI 10) hx hb dX2_decides_121 (by decide) ?_
      refine m_ald F hI  13 (show 10 < 13 by omega) rfl dX2_decides_123 ?_
      refine m_ast F hI 8 (show n < 100 by omega) rfl dX2_decides_124 (fun H locs hI => ?_)
      have hI : kI D _ A s.heap (mcp S111 8 n 13 10) H locs := hI
      generalize hS124 : mcp S111 8 n 13 10 = S124 at hI
      refine lv_aload_n hx hb dX2_decides_125 rfl (lv_at hl 3 rfl) ?_
      refine m_get F hI 12 (by decide) rfl flX2_38 dX2_decides_126 ?_
      refine lv_iload_n hx hb dX2_decides_129 rfl (lv_at hl 4 rfl) ?_
      refine lv_aload_n hx hb dX2_decides_130 rfl (lv_at hl 3 rfl) ?_
      refine m_get F hI 1 (by decide) rfl flX2_79 dX2_decides_131 ?_
      refine m_ast F hI 9 (show n < 100 by omega) rfl dX2_decides_134 (fun H locs hI => ?_)
      have hI : kI D _ A s.heap (mnw S124 9 n) H locs := hI
      generalize hS134 : mnw S124 9 n = S134 at hI
      exact h135 _ _ _ _ hI (by rw [← hS134, ← hS124, ← hS111, hu]; rfl) (by rw [hfin, m_decA, ← hS134, ← hS124, ← hS111, hu]) (lv_sub hl [1, 2, 3, 4, 5] rfl)
    have hsl := stp_lt z
    refine lv_aload_n hx hb dX2_decides_63 rfl (lv_at hl 3 rfl) ?_
    refine m_get F hI 16 (by decide) rfl flX2_47 dX2_decides_64 ?_
    refine lv_iload hx hb dX2_decides_67 (lv_at hl 0 rfl) ?_
    refine lv_dup2_11 hx hb dX2_decides_69 rfl rfl ?_
    refine m_ald F hI  12 (show (stp z) < 14 by omega) rfl dX2_decides_70 ?_
    refine lv_iconst (v := nI 1) hx hb dX2_decides_71 (by decide) ?_
    refine lv_iadd hx hb dX2_decides_72 ?_
    refine m_ast F hI 12 (show (stp z) < 14 by omega) rfl dX2_decides_73 (fun H locs hI => ?_)
    have hI : kI D _ A s.heap (m_inc (m_inc w.2 11 (7 * sh)) 12 (stp z)) H locs := hI
    generalize hS73 : m_inc (m_inc w.2 11 (7 * sh)) 12 (stp z) = S73 at hI
    refine lv_aload_n hx hb dX2_decides_74 rfl (lv_at hl 3 rfl) ?_
    refine m_get F hI 17 (by decide) rfl flX2_50 dX2_decides_75 ?_
    refine lv_bipush (v := nI 10) hx hb dX2_decides_78 (by decide) ?_
    refine lv_dup2_11 hx hb dX2_decides_80 rfl rfl ?_
    refine m_ald F hI  13 (show 10 < 13 by omega) rfl dX2_decides_81 ?_
    refine lv_iconst (v := nI 1) hx hb dX2_decides_82 (by decide) ?_
    refine lv_iadd hx hb dX2_decides_83 ?_
    refine m_ast F hI 13 (show 10 < 13 by omega) rfl dX2_decides_84 (fun H locs hI => ?_)
    have hI : kI D _ A s.heap (m_inc S73 13 10) H locs := hI
    generalize hS84 : m_inc S73 13 10 = S84 at hI
    refine lv_aload_n hx hb dX2_decides_85 rfl (lv_at hl 3 rfl) ?_
    refine m_get F hI 17 (by decide) rfl flX2_50 dX2_decides_86 ?_
    refine lv_bipush (v := nI 11) hx hb dX2_decides_89 (by decide) ?_
    refine lv_dup2_11 hx hb dX2_decides_91 rfl rfl ?_
    refine m_ald F hI  13 (show 11 < 13 by omega) rfl dX2_decides_92 ?_
    refine lv_iload_n hx hb dX2_decides_93 rfl (lv_at hl 5 rfl) ?_
    refine lv_if_eq (tgt := 101) hx hb dX2_decides_94 (by decide) (fun c94 => ?_) (fun c94 => ?_)
    ·
      refine lv_iconst (v := nI 0) hx hb dX2_decides_101 (by decide) ?_
      have ht : nI 0 = bI tn := c94.symm
      refine lv_iadd hx hb dX2_decides_102 ?_
      refine m_ast F hI 13 (show 11 < 13 by omega) rfl dX2_decides_103 (fun H locs hI => ?_)
      exact h104 _ _ _ _ hI (by rw [← hS84, ← hS73, ht]; rfl) (lv_sub hl [0, 1, 2, 3, 4, 5] rfl)
    ·
      refine lv_iconst (v := nI 1) hx hb dX2_decides_97 (by decide) ?_
      refine lv_goto (tgt := 102) hx hb dX2_decides_98 (by decide) ?_
      have ht : nI 1 = bI tn := by cases tn; exact absurd rfl c94; rfl
      refine lv_iadd hx hb dX2_decides_102 ?_
      refine m_ast F hI 13 (show 11 < 13 by omega) rfl dX2_decides_103 (fun H locs hI => ?_)
      exact h104 _ _ _ _ hI (by rw [← hS84, ← hS73, ht]; rfl) (lv_sub hl [0, 1, 2, 3, 4, 5] rfl)
  refine lv_aload_n hx hb dX2_decides_0 rfl (lv_at hl 0 rfl) ?_
  refine m_get F hI 7 (by decide) rfl flX2_23 dX2_decides_1 ?_
  refine lv_iload_n hx hb dX2_decides_4 rfl (lv_at hl 1 rfl) ?_
  refine m_ald F hI  4 (show n < 100 by omega) rfl dX2_decides_5 ?_
  refine ktop (y := nI (sh)) (by exact h4) ?_
  refine lv_istore_n (lv' := [(3, .int _), (0, .ref _), (1, .int _), (2, .int _)]) hx hb dX2_decides_6 rfl hl (by decide) rfl (fun ls hl => ?_)
  refine lv_aload_n hx hb dX2_decides_7 rfl (lv_at hl 1 rfl) ?_
  refine lv_iload_n hx hb dX2_decides_8 rfl (lv_at hl 0 rfl) ?_
  refine lv_aload_n hx hb dX2_decides_9 rfl (lv_at hl 1 rfl) ?_
  refine m_get F hI 8 (by decide) rfl flX2_26 dX2_decides_10 ?_
  refine lv_iload_n hx hb dX2_decides_13 rfl (lv_at hl 2 rfl) ?_
  refine m_ald F hI  5 (show n < 100 by omega) rfl dX2_decides_14 ?_
  refine ktop (y := nI (z)) (by exact h5) ?_
  refine lv_iload_n hx hb dX2_decides_15 rfl (lv_at hl 3 rfl) ?_
  refine kcallV (rest := []) F hA hI (mc_weightOf l _ sh hs (nI z) tn) kgX2_75 (m_rec F hI) hl.1 rfl rfl (Nat.le_of_ble_eq_true rfl) dX2_decides_16 ⟨Nat.le_of_ble_eq_true rfl, Nat.le_of_ble_eq_true rfl⟩ ⟨Nat.le_of_ble_eq_true rfl, Nat.le_of_ble_eq_true rfl⟩ (fun vq uq H locs hp hI => ?_)
  obtain ⟨rfl, hu⟩ := hp
  rw [hu, hw] at hI
  rw [hw]
  clear hu
  refine kstk (b := .int _ :: []) rfl ?_
  refine lv_istore (lv' := [(4, .int _), (3, .int _), (0, .ref _), (1, .int _), (2, .int _)]) hx hb dX2_decides_19 hl (by decide) rfl (fun ls hl => ?_)
  refine lv_aload_n hx hb dX2_decides_21 rfl (lv_at hl 2 rfl) ?_
  refine m_get F hI 15 (by decide) rfl flX2_44 dX2_decides_22 ?_
  refine lv_bipush (v := nI 7) hx hb dX2_decides_25 (by decide) ?_
  refine lv_iload_n hx hb dX2_decides_27 rfl (lv_at hl 1 rfl) ?_
  refine lv_imul hx hb dX2_decides_28 ?_
  refine ktop (y := nI (7 * (sh))) (pk_mul _ _) ?_
  refine lv_dup2_11 hx hb dX2_decides_29 rfl rfl ?_
  refine m_ald F hI  11 (show (7 * (sh)) < 35 by omega) rfl dX2_decides_30 ?_
  refine lv_iconst (v := nI 1) hx hb dX2_decides_31 (by decide) ?_
  refine lv_iadd hx hb dX2_decides_32 ?_
  refine m_ast F hI 11 (show (7 * (sh)) < 35 by omega) rfl dX2_decides_33 (fun H locs hI => ?_)
  refine lv_iconst (v := nI 0) hx hb dX2_decides_34 (by decide) ?_
  refine lv_istore (lv' := [(5, .int _), (4, .int _), (3, .int _), (0, .ref _), (1, .int _), (2, .int _)]) hx hb dX2_decides_35 hl (by decide) rfl (fun ls hl => ?_)
  refine lv_iconst (v := nI 1) hx hb dX2_decides_37 (by decide) ?_
  refine lv_istore (lv' := [(6, .int _), (5, .int _), (4, .int _), (3, .int _), (0, .ref _), (1, .int _), (2, .int _)]) hx hb dX2_decides_38 hl (by decide) rfl (fun ls hl => ?_)
  refine wloop (σ := Nat × Nat) (fun x => x.1) (fun x H locs ls => x.2 + x.1 = 13 ∧ stpL z x.1 x.2 = stp z ∧ kI D (mw g K) A s.heap (m_inc w.2 11 (7 * sh)) H locs ∧ lv_has ls 8 [(6, .int (nI (2 ^ x.2))), (5, .int (nI x.2)), (4, .int w.1), (3, .int (nI sh)), (0, .ref (g 0)), (1, .int (nI n)), (2, .int (bI tn))]) ?_ (13, 0) _ _ _ ⟨rfl, rfl, hI, lv_sub hl [0, 1, 2, 3, 4, 5, 6] rfl⟩
  rintro ⟨f, j⟩ H locs ls ⟨hk, he, hI, hl⟩ ih
  dsimp only at hk he hI hl ih
  have h2j : 2 ^ j ≤ 8192 := Nat.pow_le_pow_right (n := 2) (by decide) (show j ≤ 13 by omega)
  refine lv_aload_n hx hb dX2_decides_40 rfl (lv_at hl 4 rfl) ?_
  refine m_get F hI 8 (by decide) rfl flX2_26 dX2_decides_41 ?_
  refine lv_iload_n hx hb dX2_decides_44 rfl (lv_at hl 5 rfl) ?_
  refine m_ald F hI  5 (show n < 100 by omega) rfl dX2_decides_45 ?_
  refine ktop (y := nI (z)) (by exact hw5) ?_
  refine lv_iload hx hb dX2_decides_46 (lv_at hl 0 rfl) ?_
  refine lv_icmp_lt (tgt := 63) hx hb dX2_decides_48 (by decide) (fun c48 => ?_) (fun c48 => ?_)
  ·
    rw [nI_ltI (by omega) (by omega)] at c48
    have hj : j = stp z := by
      rw [← he]
      cases f with
      | zero => rfl
      | succ f => simp [stpL, c48]
    rw [hj] at hl
    exact h63 _ _ _ hI (lv_sub hl [1, 2, 3, 4, 5, 6] rfl)
  ·
    rw [nI_ltI (by omega) (by omega)] at c48
    obtain ⟨f, rfl⟩ : ∃ f', f = f' + 1 := by
      cases f with
      | zero =>
        exfalso
        have hj : j = 13 := by omega
        rw [hj] at c48
        exact c48 (by omega)
      | succ f => exact ⟨f, rfl⟩
    refine lv_iinc (v := nI (j + 1)) (lv' := [(5, .int _), (6, .int _), (4, .int _), (3, .int _), (0, .ref _), (1, .int _), (2, .int _)]) hx hb dX2_decides_51 hl (k := 1) rfl (kinc _ 1) (by decide) rfl (fun ls hl => ?_)
    refine lv_iload hx hb dX2_decides_54 (lv_at hl 1 rfl) ?_
    refine lv_iconst (v := nI 2) hx hb dX2_decides_56 (by decide) ?_
    refine lv_imul hx hb dX2_decides_57 ?_
    refine ktop (y := nI ((2 ^ j) * 2)) (pk_mul _ _) ?_
    refine lv_istore (lv' := [(6, .int _), (5, .int _), (4, .int _), (3, .int _), (0, .ref _), (1, .int _), (2, .int _)]) hx hb dX2_decides_58 hl (by decide) rfl (fun ls hl => ?_)
    refine lv_goto (tgt := 40) hx hb dX2_decides_60 (by decide) ?_
    exact ih (f, j + 1) _ _ _ (by show f < f + 1; omega) ⟨by show j + 1 + f = _; omega, by rw [← he]; simp [stpL, c48], hI, lv_sub hl [0, 1, 2, 3, 4, 5, 6] rfl⟩
end MC3
end
section
theorem upd_s {f : Nat → Int32} {k : Nat} {x : Int32} : upd f k x k = x := pk_us
theorem mset_s {st : MS} {k i : Nat} {v : Int32} : (mset st k i v).1 k i = v := by simp [mset, va_up, upd]
theorem mset_k {st : MS} {k j i : Nat} {v : Int32} (h : j ≠ k) : (mset st k i v).1 j = st.1 j := by simp [mset, va_up, h]
theorem mset_a {st : MS} {k i : Nat} {v : Int32} : (mset st k i v).1 k = upd (st.1 k) i v := by simp [mset, va_up]
def m_tkK (st : MS) (k : Nat) : MS := if ¬ st.1 2 k = -9 ∧ ¬ st.2.1 - st.1 7 k < st.1 1 4 then m_dec st k true else st
def m_tkN : Nat → Nat → MS → MS
  | 0, _, st => st
  | f + 1, k, st => m_tkN f (k + 1) (m_tkK st k)
def m_tk1 (st : MS) : MS := m_tkN 100 0 (mnow st (st.2.1 + nI 1))
def m_tkL : Nat → MS → MS
  | 0, st => st
  | f + 1, st => m_tkL f (m_tk1 st)
/-- what a decision needs of the state -/
def mokT (st : MS) : Prop := (∀ n, n < 100 → ¬ st.1 2 n = -9 → ∃ sh z, sh < 5 ∧ z < 8192 ∧ st.1 4 n = nI sh ∧ st.1 5 n = nI z) ∧ st.2.2.2 ≤ 20
theorem m_keep_k (u : MS) (n sh : Nat) (tn : Bool) (w : Int32) {k : Nat} (h1 : k ≠ 10) (h2 : k ≠ 11) : (m_keep u n sh tn w).1 k = u.1 k := by
  unfold m_keep
  split
  · rfl
  · split
    · exact mset_k h2
    · unfold m_row m_rowK madd mcp mnw mkm
      simp only [mset_k h1, mset_k h2]
theorem m_keep_km (u : MS) (n sh : Nat) (tn : Bool) (w : Int32) (h : u.2.2.2 ≤ 20) : (m_keep u n sh tn w).2.2.2 ≤ 20 := by
  unfold m_keep
  split
  · exact h
  · split
    · exact h
    · show u.2.2.2 + 1 ≤ 20
      omega
theorem m_keep_now (u : MS) (n sh : Nat) (tn : Bool) (w : Int32) : (m_keep u n sh tn w).2.1 = u.2.1 := by
  unfold m_keep
  split
  · rfl
  · split <;> rfl
theorem m_decA_k (u : MS) (n sh z : Nat) (tn : Bool) {k : Nat} (h1 : k ≠ 11) (h2 : k ≠ 12) (h3 : k ≠ 13) (h4 : k ≠ 2) (h5 : k ≠ 8) (h6 : k ≠ 9) : (m_decA u n sh z tn).1 k = u.1 k := by
  unfold m_decA mnw mcp madd m_inc
  simp only [mset_k h1, mset_k h2, mset_k h3, mset_k h4, mset_k h5, mset_k h6]
theorem m_decA_2 (u : MS) (n sh z : Nat) (tn : Bool) : (m_decA u n sh z tn).1 2 = upd (u.1 2) n (-9) := by
  unfold m_decA mnw mcp
  rw [mset_k (by decide), mset_k (by decide), mset_a]
  unfold madd m_inc
  rw [mset_k (by decide), mset_k (by decide), mset_k (by decide), mset_k (by decide)]
theorem m_dec_k (st : MS) (n : Nat) (tn : Bool) {k : Nat} (h : k = 1 ∨ k = 0 ∨ k = 3 ∨ k = 4 ∨ k = 5 ∨ k = 6 ∨ k = 7) : (m_dec st n tn).1 k = st.1 k := by
  unfold m_dec m_decS
  rw [m_keep_k _ _ _ _ _ (by omega) (by omega), m_decA_k _ _ _ _ _ (by omega) (by omega) (by omega) (by omega) (by omega) (by omega), (m_only_weight st _ _ tn).1 k (by omega)]
theorem m_dec_2 (st : MS) (n : Nat) (tn : Bool) : (m_dec st n tn).1 2 = upd (st.1 2) n (-9) := by
  unfold m_dec m_decS
  rw [m_keep_k _ _ _ _ _ (by omega) (by omega), m_decA_2, (m_only_weight st _ _ tn).1 2 (by omega)]
theorem m_dec_km (st : MS) (n : Nat) (tn : Bool) (h : st.2.2.2 ≤ 20) : (m_dec st n tn).2.2.2 ≤ 20 := by
  unfold m_dec m_decS
  refine m_keep_km _ _ _ _ _ ?_
  show (m_weight st _ _ tn).2.2.2.2 ≤ 20
  rw [(m_only_weight st _ _ tn).2.2]
  exact h
theorem m_dec_now (st : MS) (n : Nat) (tn : Bool) : (m_dec st n tn).2.1 = st.2.1 := by
  unfold m_dec m_decS
  rw [m_keep_now]
  exact (m_only_weight st _ _ tn).2.1
theorem mokT_dec {st : MS} (n : Nat) (tn : Bool) (h : mokT st) : mokT (m_dec st n tn) := by
  refine ⟨fun k hk h2 => ?_, m_dec_km st n tn h.2⟩
  rw [m_dec_2] at h2
  rw [m_dec_k st n tn (k := 4) (by omega), m_dec_k st n tn (k := 5) (by omega)]
  by_cases e : k = n
  · subst e
    exact absurd pk_us h2
  · rw [pk_un e] at h2
    exact h.1 k hk h2
theorem mokT_now {st : MS} (v : Int32) (h : mokT st) : mokT (mnow st v) := h
theorem mokT_tkN : ∀ (f k : Nat) (st : MS), mokT st → mokT (m_tkN f k st) := by
  intro f
  induction f with
  | zero => intro k st h; exact h
  | succ f ih =>
    intro k st h
    refine ih (k + 1) _ ?_
    unfold m_tkK
    split
    · exact mokT_dec k true h
    · exact h
section MC4
variable (l : Launch) {D : va_G} {g : Nat → Nat} {K : Nat → ClassId}
theorem mc_joins (st : MS) (n pq : Nat) (il : Bool) (z sh zl : Nat) (hn : n < 100) (hp : pq < 8) (hz : z ≤ 1000) (hs : sh < 5) (h4 : st.1 4 n = nI sh) (h5 : st.1 5 n = nI zl) (hzl : ¬ (st.1 3 n >>> (nI pq &&& 31)) &&& nI 1 = nI 1 → zl + z < 8192) (hkm : st.2.2.2 ≤ 20) : kM l yX2_joins cX2_joins 5 (some .int) 2 50 0 0 D (mty K) (mw g K) [.ref (g 0), .int (nI n), .int (nI pq), .int (bI il), .int (nI z)] st (fun v u => v = some (.int (nI (m_joins st n pq il z).1)) ∧ u = (m_joins st n pq il z).2) := by
  refine kM_intro (by decide) (Nat.le_of_ble_eq_true rfl) ?_
  intro p e s m below meth c A ls F hA hI hl
  obtain ⟨hx, hb, hr, hml, hown, hts, hlk, hK, hnm⟩ := id F
  have hl : lv_has ls 5 [(0, .ref (g 0)), (1, .int (nI n)), (2, .int (nI pq)), (3, .int (bI il)), (4, .int (nI z))] := hl
  have h101 : ∀ (u : MS) (H : Heap) (locs : List Loc) (ls : Array Slot), kI D (mw g K) A s.heap u H locs → u = m_jn st n pq il z → ¬ (st.1 3 n >>> (nI pq &&& 31)) &&& nI 1 = nI 1 → ¬ m_odd st n pq il → lv_has ls 5 [(0, .ref (g 0)), (1, .int (nI n)), (2, .int (nI pq)), (3, .int (bI il)), (4, .int (nI z))] → W p l e { frames := 2, cells := 0, slots := 0, locals := 50 } s m #[.ref (g 0), .int (nI n), .int (nI pq), .int (bI il), .int (nI z)] below meth c H locs 0 0 (MQ below (kQ D (mty K) (mw g K) (fun v u => v = some (.int (nI (m_joins st n pq il z).1)) ∧ u = (m_joins st n pq il z).2) A) #[.ref (g 0), .int (nI n), .int (nI pq), .int (bI il), .int (nI z)] s 0 0 A) (F0 m 101 ls []) := by
    intro u H locs ls hI hu ht ho hl
    have hu4 : u.1 4 n = nI sh := by rw [hu, m_jn, mlast, mset_k (by decide), madd, mset_k (by decide), mor, mset_k (by decide)]; exact h4
    have hu5 : u.1 5 n = nI (zl + z) := by rw [hu, m_jn, mlast, mset_k (by decide), madd, mset_s, mor, mset_k (by decide), h5, nI_add]
    have huk : u.2.2.2 ≤ 20 := by rw [hu]; exact hkm
    refine lv_aload_n hx hb dX2_joins_101 rfl (lv_at hl 0 rfl) ?_
    refine m_get F hI 9 (by decide) rfl flX2_29 dX2_joins_102 ?_
    refine lv_iload_n hx hb dX2_joins_105 rfl (lv_at hl 1 rfl) ?_
    refine m_ald F hI  6 (show n < 100 by omega) rfl dX2_joins_106 ?_
    refine lv_bipush (v := -9) hx hb dX2_joins_107 (by decide) ?_
    refine lv_icmp_eq (tgt := 141) hx hb dX2_joins_109 (by decide) (fun c109 => ?_) (fun c109 => ?_)
    ·
      refine lv_iconst (v := nI 1) hx hb dX2_joins_141 (by decide) ?_
      exact kret_i F hI dX2_joins_142 (⟨by simp [m_joins, ht, m_odF ho, ← hu, c109], by simp [m_joins, ht, m_odF ho, ← hu, c109]⟩)
    ·
      refine lv_aload_n hx hb dX2_joins_112 rfl (lv_at hl 0 rfl) ?_
      refine m_get F hI 6 (by decide) rfl flX2_20 dX2_joins_113 ?_
      refine lv_iload_n hx hb dX2_joins_116 rfl (lv_at hl 1 rfl) ?_
      refine m_ald F hI  3 (show n < 100 by omega) rfl dX2_joins_117 ?_
      refine lv_iconst (v := nI 1) hx hb dX2_joins_118 (by decide) ?_
      refine lv_aload_n hx hb dX2_joins_119 rfl (lv_at hl 0 rfl) ?_
      refine m_get F hI 9 (by decide) rfl flX2_29 dX2_joins_120 ?_
      refine lv_iload_n hx hb dX2_joins_123 rfl (lv_at hl 1 rfl) ?_
      refine m_ald F hI  6 (show n < 100 by omega) rfl dX2_joins_124 ?_
      refine lv_iconst (v := nI 1) hx hb dX2_joins_125 (by decide) ?_
      refine lv_iadd hx hb dX2_joins_126 ?_
      refine lv_ishl hx hb dX2_joins_127 ?_
      refine lv_iconst (v := nI 1) hx hb dX2_joins_128 (by decide) ?_
      refine lv_isub hx hb dX2_joins_129 ?_
      refine lv_icmp_ne (tgt := 141) hx hb dX2_joins_130 (by decide) (fun c130 => ?_) (fun c130 => ?_)
      ·
        refine lv_iconst (v := nI 1) hx hb dX2_joins_141 (by decide) ?_
        exact kret_i F hI dX2_joins_142 (⟨by simp [m_joins, ht, m_odF ho, ← hu, c109, c130], by simp [m_joins, ht, m_odF ho, ← hu, c109, c130]⟩)
      ·
        refine lv_aload_n hx hb dX2_joins_133 rfl (lv_at hl 0 rfl) ?_
        refine lv_iload_n hx hb dX2_joins_134 rfl (lv_at hl 1 rfl) ?_
        refine lv_iconst (v := nI 0) hx hb dX2_joins_135 (by decide) ?_
        refine kcallV (rest := []) F hA hI (mc_decides l u n sh (zl + z) false hn hs (hzl ht) hu4 hu5 huk) kgX2_85 (m_rec F hI) hl.1 rfl rfl (Nat.le_of_ble_eq_true rfl) dX2_joins_136 ⟨Nat.le_of_ble_eq_true rfl, Nat.le_of_ble_eq_true rfl⟩ ⟨Nat.le_of_ble_eq_true rfl, Nat.le_of_ble_eq_true rfl⟩ (fun vq uq H locs hp hI => ?_)
        obtain ⟨rfl, hu⟩ := hp
        rw [hu] at hI
        clear hu
        refine kstk (b := []) rfl ?_
        refine lv_iconst (v := nI 2) hx hb dX2_joins_139 (by decide) ?_
        exact kret_i F hI dX2_joins_140 (⟨by simp [m_joins, ht, m_odF ho, ← hu, c109, c130], by simp [m_joins, ht, m_odF ho, ← hu, c109, c130]⟩)
  have h58 : ∀ (H : Heap) (locs : List Loc) (ls : Array Slot), kI D (mw g K) A s.heap st H locs → ¬ (st.1 3 n >>> (nI pq &&& 31)) &&& nI 1 = nI 1 → ¬ m_odd st n pq il → lv_has ls 5 [(0, .ref (g 0)), (1, .int (nI n)), (2, .int (nI pq)), (3, .int (bI il)), (4, .int (nI z))] → W p l e { frames := 2, cells := 0, slots := 0, locals := 50 } s m #[.ref (g 0), .int (nI n), .int (nI pq), .int (bI il), .int (nI z)] below meth c H locs 0 0 (MQ below (kQ D (mty K) (mw g K) (fun v u => v = some (.int (nI (m_joins st n pq il z).1)) ∧ u = (m_joins st n pq il z).2) A) #[.ref (g 0), .int (nI n), .int (nI pq), .int (bI il), .int (nI z)] s 0 0 A) (F0 m 58 ls []) := by
    intro H locs ls hI ht ho hl
    refine lv_aload_n hx hb dX2_joins_58 rfl (lv_at hl 0 rfl) ?_
    refine m_get F hI 6 (by decide) rfl flX2_20 dX2_joins_59 ?_
    refine lv_iload_n hx hb dX2_joins_62 rfl (lv_at hl 1 rfl) ?_
    refine lv_dup2_11 hx hb dX2_joins_63 rfl rfl ?_
    refine m_ald F hI  3 (show n < 100 by omega) rfl dX2_joins_64 ?_
    refine lv_iconst (v := nI 1) hx hb dX2_joins_65 (by decide) ?_
    refine lv_iload_n hx hb dX2_joins_66 rfl (lv_at hl 2 rfl) ?_
    refine lv_ishl hx hb dX2_joins_67 ?_
    refine lv_ior hx hb dX2_joins_68 ?_
    refine m_ast F hI 3 (show n < 100 by omega) rfl dX2_joins_69 (fun H locs hI => ?_)
    have hI : kI D _ A s.heap (mor st 3 n (nI 1 <<< (nI pq &&& 31))) H locs := hI
    generalize hS69 : mor st 3 n (nI 1 <<< (nI pq &&& 31)) = S69 at hI
    refine lv_aload_n hx hb dX2_joins_70 rfl (lv_at hl 0 rfl) ?_
    refine m_get F hI 8 (by decide) rfl flX2_26 dX2_joins_71 ?_
    refine lv_iload_n hx hb dX2_joins_74 rfl (lv_at hl 1 rfl) ?_
    refine lv_dup2_11 hx hb dX2_joins_75 rfl rfl ?_
    refine m_ald F hI  5 (show n < 100 by omega) rfl dX2_joins_76 ?_
    refine lv_iload hx hb dX2_joins_77 (lv_at hl 4 rfl) ?_
    refine lv_iadd hx hb dX2_joins_79 ?_
    refine m_ast F hI 5 (show n < 100 by omega) rfl dX2_joins_80 (fun H locs hI => ?_)
    have hI : kI D _ A s.heap (madd S69 5 n (nI z)) H locs := hI
    generalize hS80 : madd S69 5 n (nI z) = S80 at hI
    refine lv_aload_n hx hb dX2_joins_81 rfl (lv_at hl 0 rfl) ?_
    refine m_get F hI 9 (by decide) rfl flX2_29 dX2_joins_82 ?_
    refine lv_iload_n hx hb dX2_joins_85 rfl (lv_at hl 1 rfl) ?_
    refine lv_iload_n hx hb dX2_joins_86 rfl (lv_at hl 3 rfl) ?_
    refine lv_if_eq (tgt := 94) hx hb dX2_joins_87 (by decide) (fun c87 => ?_) (fun c87 => ?_)
    ·
      refine lv_aload_n hx hb dX2_joins_94 rfl (lv_at hl 0 rfl) ?_
      refine m_get F hI 9 (by decide) rfl flX2_29 dX2_joins_95 ?_
      refine lv_iload_n hx hb dX2_joins_98 rfl (lv_at hl 1 rfl) ?_
      refine m_ald F hI  6 (show n < 100 by omega) rfl dX2_joins_99 ?_
      refine m_ast F hI 6 (show n < 100 by omega) rfl dX2_joins_100 (fun H locs hI => ?_)
      exact h101 _ _ _ _ hI (by rw [bI_z] at c87; rw [m_jn, ← hS80, ← hS69, mlast, c87]; rfl) ht ho (lv_sub hl [0, 1, 2, 3, 4] rfl)
    ·
      refine lv_iload_n hx hb dX2_joins_90 rfl (lv_at hl 2 rfl) ?_
      refine lv_goto (tgt := 100) hx hb dX2_joins_91 (by decide) ?_
      refine m_ast F hI 6 (show n < 100 by omega) rfl dX2_joins_100 (fun H locs hI => ?_)
      exact h101 _ _ _ _ hI (by rw [bI_z] at c87; rw [m_jn, ← hS80, ← hS69, mlast, if_pos (by simpa using c87)]) ht ho (lv_sub hl [0, 1, 2, 3, 4] rfl)
  cases il
  · have hl := hl
    refine lv_aload_n hx hb dX2_joins_0 rfl (lv_at hl 0 rfl) ?_
    refine m_get F hI 6 (by decide) rfl flX2_20 dX2_joins_1 ?_
    refine lv_iload_n hx hb dX2_joins_4 rfl (lv_at hl 1 rfl) ?_
    refine m_ald F hI  3 (show n < 100 by omega) rfl dX2_joins_5 ?_
    refine lv_iload_n hx hb dX2_joins_6 rfl (lv_at hl 2 rfl) ?_
    refine lv_ishr hx hb dX2_joins_7 ?_
    refine lv_iconst (v := nI 1) hx hb dX2_joins_8 (by decide) ?_
    refine lv_iand hx hb dX2_joins_9 ?_
    refine lv_iconst (v := nI 1) hx hb dX2_joins_10 (by decide) ?_
    refine lv_icmp_ne (tgt := 16) hx hb dX2_joins_11 (by decide) (fun c11 => ?_) (fun c11 => ?_)
    ·
      refine lv_aload_n hx hb dX2_joins_16 rfl (lv_at hl 0 rfl) ?_
      refine m_get F hI 9 (by decide) rfl flX2_29 dX2_joins_17 ?_
      refine lv_iload_n hx hb dX2_joins_20 rfl (lv_at hl 1 rfl) ?_
      refine m_ald F hI  6 (show n < 100 by omega) rfl dX2_joins_21 ?_
      refine lv_bipush (v := -9) hx hb dX2_joins_22 (by decide) ?_
      refine lv_icmp_eq (tgt := 41) hx hb dX2_joins_24 (by decide) (fun c24 => ?_) (fun c24 => ?_)
      ·
        refine lv_iload_n hx hb dX2_joins_41 rfl (lv_at hl 3 rfl) ?_
        refine lv_if_eq (tgt := 58) hx hb dX2_joins_42 (by decide) (fun c42 => ?_) (fun c42 => absurd c42 ((fun q => q rfl)))
        exact h58 _ _ _ hI c11 (fun q => q.elim (fun q => q.1 c24) (fun q => by cases q.1)) hl
      ·
        refine lv_iload_n hx hb dX2_joins_27 rfl (lv_at hl 2 rfl) ?_
        refine lv_aload_n hx hb dX2_joins_28 rfl (lv_at hl 0 rfl) ?_
        refine m_get F hI 9 (by decide) rfl flX2_29 dX2_joins_29 ?_
        refine lv_iload_n hx hb dX2_joins_32 rfl (lv_at hl 1 rfl) ?_
        refine m_ald F hI  6 (show n < 100 by omega) rfl dX2_joins_33 ?_
        refine lv_icmp_gt (tgt := 56) hx hb dX2_joins_34 (by decide) (fun c34 => ?_) (fun c34 => ?_)
        ·
          refine lv_iconst (v := nI 4) hx hb dX2_joins_56 (by decide) ?_
          exact kret_i F hI dX2_joins_57 (⟨by simp [m_joins, c11, m_odT (show m_odd st n pq false from Or.inl ⟨c24, Or.inl c34⟩)], by simp [m_joins, c11, m_odT (show m_odd st n pq false from Or.inl ⟨c24, Or.inl c34⟩)]⟩)
        ·
          refine lv_iload_n hx hb dX2_joins_37 rfl (lv_at hl 3 rfl) ?_
          refine lv_if_ne (tgt := 56) hx hb dX2_joins_38 (by decide) (fun c38 => absurd c38 ((fun q => q rfl))) (fun c38 => ?_)
          refine lv_iload_n hx hb dX2_joins_41 rfl (lv_at hl 3 rfl) ?_
          refine lv_if_eq (tgt := 58) hx hb dX2_joins_42 (by decide) (fun c42 => ?_) (fun c42 => absurd c42 ((fun q => q rfl)))
          exact h58 _ _ _ hI c11 (fun q => q.elim (fun q => q.2.elim c34 (fun q => by cases q)) (fun q => by cases q.1)) hl
    ·
      refine lv_iconst (v := nI 3) hx hb dX2_joins_14 (by decide) ?_
      exact kret_i F hI dX2_joins_15 (⟨by simp [m_joins, c11], by simp [m_joins, c11]⟩)
  · have hl := hl
    refine lv_aload_n hx hb dX2_joins_0 rfl (lv_at hl 0 rfl) ?_
    refine m_get F hI 6 (by decide) rfl flX2_20 dX2_joins_1 ?_
    refine lv_iload_n hx hb dX2_joins_4 rfl (lv_at hl 1 rfl) ?_
    refine m_ald F hI  3 (show n < 100 by omega) rfl dX2_joins_5 ?_
    refine lv_iload_n hx hb dX2_joins_6 rfl (lv_at hl 2 rfl) ?_
    refine lv_ishr hx hb dX2_joins_7 ?_
    refine lv_iconst (v := nI 1) hx hb dX2_joins_8 (by decide) ?_
    refine lv_iand hx hb dX2_joins_9 ?_
    refine lv_iconst (v := nI 1) hx hb dX2_joins_10 (by decide) ?_
    refine lv_icmp_ne (tgt := 16) hx hb dX2_joins_11 (by decide) (fun c11 => ?_) (fun c11 => ?_)
    ·
      refine lv_aload_n hx hb dX2_joins_16 rfl (lv_at hl 0 rfl) ?_
      refine m_get F hI 9 (by decide) rfl flX2_29 dX2_joins_17 ?_
      refine lv_iload_n hx hb dX2_joins_20 rfl (lv_at hl 1 rfl) ?_
      refine m_ald F hI  6 (show n < 100 by omega) rfl dX2_joins_21 ?_
      refine lv_bipush (v := -9) hx hb dX2_joins_22 (by decide) ?_
      refine lv_icmp_eq (tgt := 41) hx hb dX2_joins_24 (by decide) (fun c24 => ?_) (fun c24 => ?_)
      ·
        refine lv_iload_n hx hb dX2_joins_41 rfl (lv_at hl 3 rfl) ?_
        refine lv_if_eq (tgt := 58) hx hb dX2_joins_42 (by decide) (fun c42 => absurd c42 (by decide)) (fun c42 => ?_)
        refine lv_aload_n hx hb dX2_joins_45 rfl (lv_at hl 0 rfl) ?_
        refine m_get F hI 6 (by decide) rfl flX2_20 dX2_joins_46 ?_
        refine lv_iload_n hx hb dX2_joins_49 rfl (lv_at hl 1 rfl) ?_
        refine m_ald F hI  3 (show n < 100 by omega) rfl dX2_joins_50 ?_
        refine lv_iload_n hx hb dX2_joins_51 rfl (lv_at hl 2 rfl) ?_
        refine lv_ishr hx hb dX2_joins_52 ?_
        refine lv_if_eq (tgt := 58) hx hb dX2_joins_53 (by decide) (fun c53 => ?_) (fun c53 => ?_)
        ·
          exact h58 _ _ _ hI c11 (fun q => q.elim (fun q => q.1 c24) (fun q => q.2 c53)) hl
        ·
          refine lv_iconst (v := nI 4) hx hb dX2_joins_56 (by decide) ?_
          exact kret_i F hI dX2_joins_57 (⟨by simp [m_joins, c11, m_odT (show m_odd st n pq true from Or.inr ⟨rfl, c53⟩)], by simp [m_joins, c11, m_odT (show m_odd st n pq true from Or.inr ⟨rfl, c53⟩)]⟩)
      ·
        refine lv_iload_n hx hb dX2_joins_27 rfl (lv_at hl 2 rfl) ?_
        refine lv_aload_n hx hb dX2_joins_28 rfl (lv_at hl 0 rfl) ?_
        refine m_get F hI 9 (by decide) rfl flX2_29 dX2_joins_29 ?_
        refine lv_iload_n hx hb dX2_joins_32 rfl (lv_at hl 1 rfl) ?_
        refine m_ald F hI  6 (show n < 100 by omega) rfl dX2_joins_33 ?_
        refine lv_icmp_gt (tgt := 56) hx hb dX2_joins_34 (by decide) (fun c34 => ?_) (fun c34 => ?_)
        ·
          refine lv_iconst (v := nI 4) hx hb dX2_joins_56 (by decide) ?_
          exact kret_i F hI dX2_joins_57 (⟨by simp [m_joins, c11, m_odT (show m_odd st n pq true from Or.inl ⟨c24, Or.inr rfl⟩)], by simp [m_joins, c11, m_odT (show m_odd st n pq true from Or.inl ⟨c24, Or.inr rfl⟩)]⟩)
        ·
          refine lv_iload_n hx hb dX2_joins_37 rfl (lv_at hl 3 rfl) ?_
          refine lv_if_ne (tgt := 56) hx hb dX2_joins_38 (by decide) (fun c38 => ?_) (fun c38 => absurd c38 (by decide))
          refine lv_iconst (v := nI 4) hx hb dX2_joins_56 (by decide) ?_
          exact kret_i F hI dX2_joins_57 (⟨by simp [m_joins, c11, m_odT (show m_odd st n pq true from Or.inl ⟨c24, Or.inr rfl⟩)], by simp [m_joins, c11, m_odT (show m_odd st n pq true from Or.inl ⟨c24, Or.inr rfl⟩)]⟩)
    ·
      refine lv_iconst (v := nI 3) hx hb dX2_joins_14 (by decide) ?_
      exact kret_i F hI dX2_joins_15 (⟨by simp [m_joins, c11], by simp [m_joins, c11]⟩)
theorem mc_comes (st : MS) (n pq : Nat) (il : Bool) (sh z : Nat) (hn : n < 100) (hp : pq < 8) (hs : sh < 5) (hz : z ≤ 1000) (hj : ¬ st.1 2 n = -9 → ∃ sh' zl, sh' < 5 ∧ st.1 4 n = nI sh' ∧ st.1 5 n = nI zl ∧ (¬ (st.1 3 n >>> (nI pq &&& 31)) &&& nI 1 = nI 1 → zl + z < 8192)) (hkm : st.2.2.2 ≤ 20) : kM l yX2_comes cX2_comes 7 (some .int) 3 74 0 0 D (mty K) (mw g K) [.ref (g 0), .int (nI n), .int (nI pq), .int (bI il), .int (nI sh), .int (nI z)] st (fun v u => v = some (.int (nI (m_comes st n pq il sh z).1)) ∧ u = (m_comes st n pq il sh z).2) := by
  refine kM_intro (by decide) (Nat.le_of_ble_eq_true rfl) ?_
  intro p e s m below meth c A ls F hA hI hl
  obtain ⟨hx, hb, hr, hml, hown, hts, hlk, hK, hnm⟩ := id F
  have hl : lv_has ls 7 [(0, .ref (g 0)), (1, .int (nI n)), (2, .int (nI pq)), (3, .int (bI il)), (4, .int (nI sh)), (5, .int (nI z))] := hl
  by_cases hh : hm (m_up st) n = -9
  · have hl := hl
    refine lv_aload_n hx hb dX2_comes_0 rfl (lv_at hl 0 rfl) ?_
    refine lv_iload_n hx hb dX2_comes_1 rfl (lv_at hl 1 rfl) ?_
    refine kcallV (rest := []) F hA hI (mc_homeOf l _ n hn) kgX2_61 (m_rec F hI) hl.1 rfl rfl (Nat.le_of_ble_eq_true rfl) dX2_comes_2 ⟨Nat.le_of_ble_eq_true rfl, Nat.le_of_ble_eq_true rfl⟩ ⟨Nat.le_of_ble_eq_true rfl, Nat.le_of_ble_eq_true rfl⟩ (fun vq uq H locs hp hI => ?_)
    obtain ⟨rfl, hu⟩ := hp
    rw [hu] at hI
    clear hu
    refine kstk (b := .int _ :: []) rfl ?_
    refine lv_bipush (v := -9) hx hb dX2_comes_5 (by decide) ?_
    refine lv_icmp_ne (tgt := 13) hx hb dX2_comes_7 (by decide) (fun c7 => absurd c7 ((fun q => q hh))) (fun c7 => ?_)
    refine lv_bipush (v := nI 7) hx hb dX2_comes_10 (by decide) ?_
    exact kret_i F hI dX2_comes_12 (⟨by simp [m_comes, hh], by simp [m_comes, hh]⟩)
  by_cases hk : st.1 2 n = -9
  · by_cases hw : m_known st n = true
    · rcases m_keptAt_cases st n with h0 | ⟨i, hi, h1⟩
      · have hl := hl
        refine lv_aload_n hx hb dX2_comes_0 rfl (lv_at hl 0 rfl) ?_
        refine lv_iload_n hx hb dX2_comes_1 rfl (lv_at hl 1 rfl) ?_
        refine kcallV (rest := []) F hA hI (mc_homeOf l _ n hn) kgX2_61 (m_rec F hI) hl.1 rfl rfl (Nat.le_of_ble_eq_true rfl) dX2_comes_2 ⟨Nat.le_of_ble_eq_true rfl, Nat.le_of_ble_eq_true rfl⟩ ⟨Nat.le_of_ble_eq_true rfl, Nat.le_of_ble_eq_true rfl⟩ (fun vq uq H locs hp hI => ?_)
        obtain ⟨rfl, hu⟩ := hp
        rw [hu] at hI
        clear hu
        refine kstk (b := .int _ :: []) rfl ?_
        refine lv_bipush (v := -9) hx hb dX2_comes_5 (by decide) ?_
        refine lv_icmp_ne (tgt := 13) hx hb dX2_comes_7 (by decide) (fun c7 => ?_) (fun c7 => absurd c7 (hh))
        refine lv_aload_n hx hb dX2_comes_13 rfl (lv_at hl 0 rfl) ?_
        refine m_get F hI 5 (by decide) rfl flX2_17 dX2_comes_14 ?_
        refine lv_iload_n hx hb dX2_comes_17 rfl (lv_at hl 1 rfl) ?_
        refine m_ald F hI  2 (show n < 100 by omega) rfl dX2_comes_18 ?_
        refine lv_bipush (v := -9) hx hb dX2_comes_19 (by decide) ?_
        refine lv_icmp_eq (tgt := 34) hx hb dX2_comes_21 (by decide) (fun c21 => ?_) (fun c21 => absurd c21 ((fun q => q hk)))
        refine lv_aload_n hx hb dX2_comes_34 rfl (lv_at hl 0 rfl) ?_
        refine lv_iload_n hx hb dX2_comes_35 rfl (lv_at hl 1 rfl) ?_
        refine kcallV (rest := []) F hA hI (mc_known l _ n hn) kgX2_93 (m_rec F hI) hl.1 rfl rfl (Nat.le_of_ble_eq_true rfl) dX2_comes_36 ⟨Nat.le_of_ble_eq_true rfl, Nat.le_of_ble_eq_true rfl⟩ ⟨Nat.le_of_ble_eq_true rfl, Nat.le_of_ble_eq_true rfl⟩ (fun vq uq H locs hp hI => ?_)
        obtain ⟨rfl, hu⟩ := hp
        rw [hu] at hI
        clear hu
        refine kstk (b := .int _ :: []) rfl ?_
        refine lv_if_eq (tgt := 136) hx hb dX2_comes_39 (by decide) (fun c39 => absurd c39 ((fun q => by rw [bI_z, hw] at q; cases q))) (fun c39 => ?_)
        refine lv_aload_n hx hb dX2_comes_42 rfl (lv_at hl 0 rfl) ?_
        refine lv_iload_n hx hb dX2_comes_43 rfl (lv_at hl 1 rfl) ?_
        refine kcallV (rest := []) F hA hI (mc_keptAt l _ n hn hkm) kgX2_97 (m_rec F hI) hl.1 rfl rfl (Nat.le_of_ble_eq_true rfl) dX2_comes_44 ⟨Nat.le_of_ble_eq_true rfl, Nat.le_of_ble_eq_true rfl⟩ ⟨Nat.le_of_ble_eq_true rfl, Nat.le_of_ble_eq_true rfl⟩ (fun vq uq H locs hp hI => ?_)
        obtain ⟨rfl, hu⟩ := hp
        rw [hu] at hI
        clear hu
        refine kstk (b := .int _ :: []) rfl ?_
        refine lv_istore (lv' := [(6, .int _), (0, .ref _), (1, .int _), (2, .int _), (3, .int _), (4, .int _), (5, .int _)]) hx hb dX2_comes_47 hl (by decide) rfl (fun ls hl => ?_)
        refine lv_iload hx hb dX2_comes_49 (lv_at hl 0 rfl) ?_
        refine lv_bipush (v := -9) hx hb dX2_comes_51 (by decide) ?_
        refine lv_icmp_eq (tgt := 96) hx hb dX2_comes_53 (by decide) (fun c53 => ?_) (fun c53 => absurd c53 ((fun q => q h0)))
        refine lv_bipush (v := nI 6) hx hb dX2_comes_96 (by decide) ?_
        exact kret_i F hI dX2_comes_98 (⟨by simp [m_comes, hh, hk, hw, h0], by simp [m_comes, hh, hk, hw, h0]⟩)
      · have hcl : (m_keptAt st n).toNatClampNeg = i := by rw [h1]; exact nI_clamp (by omega)
        have h9 : ¬ m_keptAt st n = -9 := by rw [h1]; exact nI_n9 (by omega)
        refine lv_aload_n hx hb dX2_comes_0 rfl (lv_at hl 0 rfl) ?_
        refine lv_iload_n hx hb dX2_comes_1 rfl (lv_at hl 1 rfl) ?_
        refine kcallV (rest := []) F hA hI (mc_homeOf l _ n hn) kgX2_61 (m_rec F hI) hl.1 rfl rfl (Nat.le_of_ble_eq_true rfl) dX2_comes_2 ⟨Nat.le_of_ble_eq_true rfl, Nat.le_of_ble_eq_true rfl⟩ ⟨Nat.le_of_ble_eq_true rfl, Nat.le_of_ble_eq_true rfl⟩ (fun vq uq H locs hp hI => ?_)
        obtain ⟨rfl, hu⟩ := hp
        rw [hu] at hI
        clear hu
        refine kstk (b := .int _ :: []) rfl ?_
        refine lv_bipush (v := -9) hx hb dX2_comes_5 (by decide) ?_
        refine lv_icmp_ne (tgt := 13) hx hb dX2_comes_7 (by decide) (fun c7 => ?_) (fun c7 => absurd c7 (hh))
        refine lv_aload_n hx hb dX2_comes_13 rfl (lv_at hl 0 rfl) ?_
        refine m_get F hI 5 (by decide) rfl flX2_17 dX2_comes_14 ?_
        refine lv_iload_n hx hb dX2_comes_17 rfl (lv_at hl 1 rfl) ?_
        refine m_ald F hI  2 (show n < 100 by omega) rfl dX2_comes_18 ?_
        refine lv_bipush (v := -9) hx hb dX2_comes_19 (by decide) ?_
        refine lv_icmp_eq (tgt := 34) hx hb dX2_comes_21 (by decide) (fun c21 => ?_) (fun c21 => absurd c21 ((fun q => q hk)))
        refine lv_aload_n hx hb dX2_comes_34 rfl (lv_at hl 0 rfl) ?_
        refine lv_iload_n hx hb dX2_comes_35 rfl (lv_at hl 1 rfl) ?_
        refine kcallV (rest := []) F hA hI (mc_known l _ n hn) kgX2_93 (m_rec F hI) hl.1 rfl rfl (Nat.le_of_ble_eq_true rfl) dX2_comes_36 ⟨Nat.le_of_ble_eq_true rfl, Nat.le_of_ble_eq_true rfl⟩ ⟨Nat.le_of_ble_eq_true rfl, Nat.le_of_ble_eq_true rfl⟩ (fun vq uq H locs hp hI => ?_)
        obtain ⟨rfl, hu⟩ := hp
        rw [hu] at hI
        clear hu
        refine kstk (b := .int _ :: []) rfl ?_
        refine lv_if_eq (tgt := 136) hx hb dX2_comes_39 (by decide) (fun c39 => absurd c39 ((fun q => by rw [bI_z, hw] at q; cases q))) (fun c39 => ?_)
        refine lv_aload_n hx hb dX2_comes_42 rfl (lv_at hl 0 rfl) ?_
        refine lv_iload_n hx hb dX2_comes_43 rfl (lv_at hl 1 rfl) ?_
        refine kcallV (rest := []) F hA hI (mc_keptAt l _ n hn hkm) kgX2_97 (m_rec F hI) hl.1 rfl rfl (Nat.le_of_ble_eq_true rfl) dX2_comes_44 ⟨Nat.le_of_ble_eq_true rfl, Nat.le_of_ble_eq_true rfl⟩ ⟨Nat.le_of_ble_eq_true rfl, Nat.le_of_ble_eq_true rfl⟩ (fun vq uq H locs hp hI => ?_)
        obtain ⟨rfl, hu⟩ := hp
        rw [hu] at hI
        clear hu
        refine kstk (b := .int _ :: []) rfl ?_
        refine ktop (y := nI (i)) (by exact h1) ?_
        refine lv_istore (lv' := [(6, .int _), (0, .ref _), (1, .int _), (2, .int _), (3, .int _), (4, .int _), (5, .int _)]) hx hb dX2_comes_47 hl (by decide) rfl (fun ls hl => ?_)
        refine lv_iload hx hb dX2_comes_49 (lv_at hl 0 rfl) ?_
        refine lv_bipush (v := -9) hx hb dX2_comes_51 (by decide) ?_
        refine lv_icmp_eq (tgt := 96) hx hb dX2_comes_53 (by decide) (fun c53 => absurd c53 ((fun q => h9 (h1.trans q)))) (fun c53 => ?_)
        refine lv_aload_n hx hb dX2_comes_56 rfl (lv_at hl 1 rfl) ?_
        refine m_get F hI 1 (by decide) rfl flX2_79 dX2_comes_57 ?_
        refine lv_aload_n hx hb dX2_comes_60 rfl (lv_at hl 1 rfl) ?_
        refine m_get F hI 12 (by decide) rfl flX2_38 dX2_comes_61 ?_
        refine lv_iload_n hx hb dX2_comes_64 rfl (lv_at hl 2 rfl) ?_
        refine m_ald F hI  9 (show n < 100 by omega) rfl dX2_comes_65 ?_
        refine lv_isub hx hb dX2_comes_66 ?_
        refine lv_aload_n hx hb dX2_comes_67 rfl (lv_at hl 1 rfl) ?_
        refine m_get F hI 4 (by decide) rfl flX2_13 dX2_comes_68 ?_
        refine lv_iconst (v := nI 5) hx hb dX2_comes_71 (by decide) ?_
        refine m_ald F hI  1 (show 5 < 6 by omega) rfl dX2_comes_72 ?_
        refine lv_icmp_gt (tgt := 96) hx hb dX2_comes_73 (by decide) (fun c73 => ?_) (fun c73 => ?_)
        ·
          refine lv_bipush (v := nI 6) hx hb dX2_comes_96 (by decide) ?_
          exact kret_i F hI dX2_comes_98 (⟨by simp [m_comes, hh, hk, hw, h9, c73], by simp [m_comes, hh, hk, hw, h9, c73]⟩)
        ·
          refine lv_aload_n hx hb dX2_comes_76 rfl (lv_at hl 1 rfl) ?_
          refine m_get F hI 13 (by decide) rfl flX2_41 dX2_comes_77 ?_
          refine lv_bipush (v := nI 8) hx hb dX2_comes_80 (by decide) ?_
          refine lv_iload hx hb dX2_comes_82 (lv_at hl 0 rfl) ?_
          refine lv_imul hx hb dX2_comes_84 ?_
          refine ktop (y := nI (8 * (i))) (pk_mul _ _) ?_
          refine lv_iconst (v := nI 1) hx hb dX2_comes_85 (by decide) ?_
          refine lv_iadd hx hb dX2_comes_86 ?_
          refine ktop (y := nI ((8 * (i)) + 1)) (nI_add _ _) ?_
          refine m_ald F hI  10 (show ((8 * (i)) + 1) < 160 by omega) rfl dX2_comes_87 ?_
          refine lv_iload_n hx hb dX2_comes_88 rfl (lv_at hl 3 rfl) ?_
          refine lv_ishr hx hb dX2_comes_89 ?_
          refine lv_iconst (v := nI 1) hx hb dX2_comes_90 (by decide) ?_
          refine lv_iand hx hb dX2_comes_91 ?_
          refine lv_iconst (v := nI 1) hx hb dX2_comes_92 (by decide) ?_
          refine lv_icmp_ne (tgt := 99) hx hb dX2_comes_93 (by decide) (fun c93 => ?_) (fun c93 => ?_)
          ·
            refine lv_aload_n hx hb dX2_comes_99 rfl (lv_at hl 1 rfl) ?_
            refine m_get F hI 13 (by decide) rfl flX2_41 dX2_comes_100 ?_
            refine lv_bipush (v := nI 8) hx hb dX2_comes_103 (by decide) ?_
            refine lv_iload hx hb dX2_comes_105 (lv_at hl 0 rfl) ?_
            refine lv_imul hx hb dX2_comes_107 ?_
            refine ktop (y := nI (8 * (i))) (pk_mul _ _) ?_
            refine lv_iconst (v := nI 1) hx hb dX2_comes_108 (by decide) ?_
            refine lv_iadd hx hb dX2_comes_109 ?_
            refine ktop (y := nI ((8 * (i)) + 1)) (nI_add _ _) ?_
            refine lv_dup2_11 hx hb dX2_comes_110 rfl rfl ?_
            refine m_ald F hI  10 (show ((8 * (i)) + 1) < 160 by omega) rfl dX2_comes_111 ?_
            refine lv_iconst (v := nI 1) hx hb dX2_comes_112 (by decide) ?_
            refine lv_iload_n hx hb dX2_comes_113 rfl (lv_at hl 3 rfl) ?_
            refine lv_ishl hx hb dX2_comes_114 ?_
            refine lv_ior hx hb dX2_comes_115 ?_
            refine m_ast F hI 10 (show ((8 * (i)) + 1) < 160 by omega) rfl dX2_comes_116 (fun H locs hI => ?_)
            have hI : kI D _ A s.heap (mor st 10 (8 * i + 1) (nI 1 <<< (nI pq &&& 31))) H locs := hI
            generalize hS116 : mor st 10 (8 * i + 1) (nI 1 <<< (nI pq &&& 31)) = S116 at hI
            refine lv_aload_n hx hb dX2_comes_117 rfl (lv_at hl 1 rfl) ?_
            refine m_get F hI 13 (by decide) rfl flX2_41 dX2_comes_118 ?_
            refine lv_bipush (v := nI 8) hx hb dX2_comes_121 (by decide) ?_
            refine lv_iload hx hb dX2_comes_123 (lv_at hl 0 rfl) ?_
            refine lv_imul hx hb dX2_comes_125 ?_
            refine ktop (y := nI (8 * (i))) (pk_mul _ _) ?_
            refine lv_iconst (v := nI 3) hx hb dX2_comes_126 (by decide) ?_
            refine lv_iadd hx hb dX2_comes_127 ?_
            refine ktop (y := nI ((8 * (i)) + 3)) (nI_add _ _) ?_
            refine lv_dup2_11 hx hb dX2_comes_128 rfl rfl ?_
            refine m_ald F hI  10 (show ((8 * (i)) + 3) < 160 by omega) rfl dX2_comes_129 ?_
            refine lv_iload hx hb dX2_comes_130 (lv_at hl 6 rfl) ?_
            refine lv_iadd hx hb dX2_comes_132 ?_
            refine m_ast F hI 10 (show ((8 * (i)) + 3) < 160 by omega) rfl dX2_comes_133 (fun H locs hI => ?_)
            have hI : kI D _ A s.heap (madd S116 10 (8 * i + 3) (nI z)) H locs := hI
            generalize hS133 : madd S116 10 (8 * i + 3) (nI z) = S133 at hI
            refine lv_iconst (v := nI 5) hx hb dX2_comes_134 (by decide) ?_
            exact kret_i F hI dX2_comes_135 (⟨by simp [m_comes, hh, hk, hw, h9, c73, c93, hcl], by simp [m_comes, hh, hk, hw, h9, c73, c93, hcl, m_late, hS116, hS133]⟩)
          ·
            refine lv_bipush (v := nI 6) hx hb dX2_comes_96 (by decide) ?_
            exact kret_i F hI dX2_comes_98 (⟨by simp [m_comes, hh, hk, hw, h9, c73, c93, hcl], by simp [m_comes, hh, hk, hw, h9, c73, c93, hcl]⟩)
    · have hw2 : m_known st n = false := by simpa using hw
      by_cases h24 : m_wm st = nI 24
      · have hl := hl
        refine lv_aload_n hx hb dX2_comes_0 rfl (lv_at hl 0 rfl) ?_
        refine lv_iload_n hx hb dX2_comes_1 rfl (lv_at hl 1 rfl) ?_
        refine kcallV (rest := []) F hA hI (mc_homeOf l _ n hn) kgX2_61 (m_rec F hI) hl.1 rfl rfl (Nat.le_of_ble_eq_true rfl) dX2_comes_2 ⟨Nat.le_of_ble_eq_true rfl, Nat.le_of_ble_eq_true rfl⟩ ⟨Nat.le_of_ble_eq_true rfl, Nat.le_of_ble_eq_true rfl⟩ (fun vq uq H locs hp hI => ?_)
        obtain ⟨rfl, hu⟩ := hp
        rw [hu] at hI
        clear hu
        refine kstk (b := .int _ :: []) rfl ?_
        refine lv_bipush (v := -9) hx hb dX2_comes_5 (by decide) ?_
        refine lv_icmp_ne (tgt := 13) hx hb dX2_comes_7 (by decide) (fun c7 => ?_) (fun c7 => absurd c7 (hh))
        refine lv_aload_n hx hb dX2_comes_13 rfl (lv_at hl 0 rfl) ?_
        refine m_get F hI 5 (by decide) rfl flX2_17 dX2_comes_14 ?_
        refine lv_iload_n hx hb dX2_comes_17 rfl (lv_at hl 1 rfl) ?_
        refine m_ald F hI  2 (show n < 100 by omega) rfl dX2_comes_18 ?_
        refine lv_bipush (v := -9) hx hb dX2_comes_19 (by decide) ?_
        refine lv_icmp_eq (tgt := 34) hx hb dX2_comes_21 (by decide) (fun c21 => ?_) (fun c21 => absurd c21 ((fun q => q hk)))
        refine lv_aload_n hx hb dX2_comes_34 rfl (lv_at hl 0 rfl) ?_
        refine lv_iload_n hx hb dX2_comes_35 rfl (lv_at hl 1 rfl) ?_
        refine kcallV (rest := []) F hA hI (mc_known l _ n hn) kgX2_93 (m_rec F hI) hl.1 rfl rfl (Nat.le_of_ble_eq_true rfl) dX2_comes_36 ⟨Nat.le_of_ble_eq_true rfl, Nat.le_of_ble_eq_true rfl⟩ ⟨Nat.le_of_ble_eq_true rfl, Nat.le_of_ble_eq_true rfl⟩ (fun vq uq H locs hp hI => ?_)
        obtain ⟨rfl, hu⟩ := hp
        rw [hu] at hI
        clear hu
        refine kstk (b := .int _ :: []) rfl ?_
        refine lv_if_eq (tgt := 136) hx hb dX2_comes_39 (by decide) (fun c39 => ?_) (fun c39 => absurd c39 ((fun q => q (bI_z.mpr hw2))))
        refine lv_aload_n hx hb dX2_comes_136 rfl (lv_at hl 0 rfl) ?_
        refine kcallV (rest := []) F hA hI (mc_waitingMany l _) kgX2_100 (m_rec F hI) hl.1 rfl rfl (Nat.le_of_ble_eq_true rfl) dX2_comes_137 ⟨Nat.le_of_ble_eq_true rfl, Nat.le_of_ble_eq_true rfl⟩ ⟨Nat.le_of_ble_eq_true rfl, Nat.le_of_ble_eq_true rfl⟩ (fun vq uq H locs hp hI => ?_)
        obtain ⟨rfl, hu⟩ := hp
        rw [hu] at hI
        clear hu
        refine kstk (b := .int _ :: []) rfl ?_
        refine lv_bipush (v := nI 24) hx hb dX2_comes_140 (by decide) ?_
        refine lv_icmp_ne (tgt := 148) hx hb dX2_comes_142 (by decide) (fun c142 => absurd c142 ((fun q => q h24))) (fun c142 => ?_)
        refine lv_bipush (v := nI 7) hx hb dX2_comes_145 (by decide) ?_
        exact kret_i F hI dX2_comes_147 (⟨by simp [m_comes, hh, hk, hw, h24], by simp [m_comes, hh, hk, hw, h24]⟩)
      · have hl := hl
        refine lv_aload_n hx hb dX2_comes_0 rfl (lv_at hl 0 rfl) ?_
        refine lv_iload_n hx hb dX2_comes_1 rfl (lv_at hl 1 rfl) ?_
        refine kcallV (rest := []) F hA hI (mc_homeOf l _ n hn) kgX2_61 (m_rec F hI) hl.1 rfl rfl (Nat.le_of_ble_eq_true rfl) dX2_comes_2 ⟨Nat.le_of_ble_eq_true rfl, Nat.le_of_ble_eq_true rfl⟩ ⟨Nat.le_of_ble_eq_true rfl, Nat.le_of_ble_eq_true rfl⟩ (fun vq uq H locs hp hI => ?_)
        obtain ⟨rfl, hu⟩ := hp
        rw [hu] at hI
        clear hu
        refine kstk (b := .int _ :: []) rfl ?_
        refine lv_bipush (v := -9) hx hb dX2_comes_5 (by decide) ?_
        refine lv_icmp_ne (tgt := 13) hx hb dX2_comes_7 (by decide) (fun c7 => ?_) (fun c7 => absurd c7 (hh))
        refine lv_aload_n hx hb dX2_comes_13 rfl (lv_at hl 0 rfl) ?_
        refine m_get F hI 5 (by decide) rfl flX2_17 dX2_comes_14 ?_
        refine lv_iload_n hx hb dX2_comes_17 rfl (lv_at hl 1 rfl) ?_
        refine m_ald F hI  2 (show n < 100 by omega) rfl dX2_comes_18 ?_
        refine lv_bipush (v := -9) hx hb dX2_comes_19 (by decide) ?_
        refine lv_icmp_eq (tgt := 34) hx hb dX2_comes_21 (by decide) (fun c21 => ?_) (fun c21 => absurd c21 ((fun q => q hk)))
        refine lv_aload_n hx hb dX2_comes_34 rfl (lv_at hl 0 rfl) ?_
        refine lv_iload_n hx hb dX2_comes_35 rfl (lv_at hl 1 rfl) ?_
        refine kcallV (rest := []) F hA hI (mc_known l _ n hn) kgX2_93 (m_rec F hI) hl.1 rfl rfl (Nat.le_of_ble_eq_true rfl) dX2_comes_36 ⟨Nat.le_of_ble_eq_true rfl, Nat.le_of_ble_eq_true rfl⟩ ⟨Nat.le_of_ble_eq_true rfl, Nat.le_of_ble_eq_true rfl⟩ (fun vq uq H locs hp hI => ?_)
        obtain ⟨rfl, hu⟩ := hp
        rw [hu] at hI
        clear hu
        refine kstk (b := .int _ :: []) rfl ?_
        refine lv_if_eq (tgt := 136) hx hb dX2_comes_39 (by decide) (fun c39 => ?_) (fun c39 => absurd c39 ((fun q => q (bI_z.mpr hw2))))
        refine lv_aload_n hx hb dX2_comes_136 rfl (lv_at hl 0 rfl) ?_
        refine kcallV (rest := []) F hA hI (mc_waitingMany l _) kgX2_100 (m_rec F hI) hl.1 rfl rfl (Nat.le_of_ble_eq_true rfl) dX2_comes_137 ⟨Nat.le_of_ble_eq_true rfl, Nat.le_of_ble_eq_true rfl⟩ ⟨Nat.le_of_ble_eq_true rfl, Nat.le_of_ble_eq_true rfl⟩ (fun vq uq H locs hp hI => ?_)
        obtain ⟨rfl, hu⟩ := hp
        rw [hu] at hI
        clear hu
        refine kstk (b := .int _ :: []) rfl ?_
        refine lv_bipush (v := nI 24) hx hb dX2_comes_140 (by decide) ?_
        refine lv_icmp_ne (tgt := 148) hx hb dX2_comes_142 (by decide) (fun c142 => ?_) (fun c142 => absurd c142 (h24))
        refine lv_aload_n hx hb dX2_comes_148 rfl (lv_at hl 0 rfl) ?_
        refine m_get F hI 5 (by decide) rfl flX2_17 dX2_comes_149 ?_
        refine lv_iload_n hx hb dX2_comes_152 rfl (lv_at hl 1 rfl) ?_
        refine lv_aload_n hx hb dX2_comes_153 rfl (lv_at hl 0 rfl) ?_
        refine lv_iload_n hx hb dX2_comes_154 rfl (lv_at hl 1 rfl) ?_
        refine kcallV (rest := [.int _, .ref _]) F hA hI (mc_homeOf l _ n hn) kgX2_61 (m_rec F hI) hl.1 rfl rfl (Nat.le_of_ble_eq_true rfl) dX2_comes_155 ⟨Nat.le_of_ble_eq_true rfl, Nat.le_of_ble_eq_true rfl⟩ ⟨Nat.le_of_ble_eq_true rfl, Nat.le_of_ble_eq_true rfl⟩ (fun vq uq H locs hp hI => ?_)
        obtain ⟨rfl, hu⟩ := hp
        rw [hu] at hI
        clear hu
        refine kstk (b := .int _ :: [.int _, .ref _]) rfl ?_
        refine m_ast F hI 2 (show n < 100 by omega) rfl dX2_comes_158 (fun H locs hI => ?_)
        have hI : kI D _ A s.heap (mset st 2 n (hm (m_up st) n)) H locs := hI
        generalize hS158 : mset st 2 n (hm (m_up st) n) = S158 at hI
        refine lv_aload_n hx hb dX2_comes_159 rfl (lv_at hl 0 rfl) ?_
        refine m_get F hI 6 (by decide) rfl flX2_20 dX2_comes_160 ?_
        refine lv_iload_n hx hb dX2_comes_163 rfl (lv_at hl 1 rfl) ?_
        refine lv_iconst (v := nI 0) hx hb dX2_comes_164 (by decide) ?_
        refine m_ast F hI 3 (show n < 100 by omega) rfl dX2_comes_165 (fun H locs hI => ?_)
        have hI : kI D _ A s.heap (mset S158 3 n (nI 0)) H locs := hI
        generalize hS165 : mset S158 3 n (nI 0) = S165 at hI
        refine lv_aload_n hx hb dX2_comes_166 rfl (lv_at hl 0 rfl) ?_
        refine m_get F hI 7 (by decide) rfl flX2_23 dX2_comes_167 ?_
        refine lv_iload_n hx hb dX2_comes_170 rfl (lv_at hl 1 rfl) ?_
        refine lv_iload hx hb dX2_comes_171 (lv_at hl 4 rfl) ?_
        refine m_ast F hI 4 (show n < 100 by omega) rfl dX2_comes_173 (fun H locs hI => ?_)
        have hI : kI D _ A s.heap (mset S165 4 n (nI sh)) H locs := hI
        generalize hS173 : mset S165 4 n (nI sh) = S173 at hI
        refine lv_aload_n hx hb dX2_comes_174 rfl (lv_at hl 0 rfl) ?_
        refine m_get F hI 8 (by decide) rfl flX2_26 dX2_comes_175 ?_
        refine lv_iload_n hx hb dX2_comes_178 rfl (lv_at hl 1 rfl) ?_
        refine lv_iconst (v := nI 0) hx hb dX2_comes_179 (by decide) ?_
        refine m_ast F hI 5 (show n < 100 by omega) rfl dX2_comes_180 (fun H locs hI => ?_)
        have hI : kI D _ A s.heap (mset S173 5 n (nI 0)) H locs := hI
        generalize hS180 : mset S173 5 n (nI 0) = S180 at hI
        refine lv_aload_n hx hb dX2_comes_181 rfl (lv_at hl 0 rfl) ?_
        refine m_get F hI 9 (by decide) rfl flX2_29 dX2_comes_182 ?_
        refine lv_iload_n hx hb dX2_comes_185 rfl (lv_at hl 1 rfl) ?_
        refine lv_bipush (v := -9) hx hb dX2_comes_186 (by decide) ?_
        refine m_ast F hI 6 (show n < 100 by omega) rfl dX2_comes_188 (fun H locs hI => ?_)
        have hI : kI D _ A s.heap (mset S180 6 n (-9)) H locs := hI
        generalize hS188 : mset S180 6 n (-9) = S188 at hI
        refine lv_aload_n hx hb dX2_comes_189 rfl (lv_at hl 0 rfl) ?_
        refine m_get F hI 10 (by decide) rfl flX2_32 dX2_comes_190 ?_
        refine lv_iload_n hx hb dX2_comes_193 rfl (lv_at hl 1 rfl) ?_
        refine lv_aload_n hx hb dX2_comes_194 rfl (lv_at hl 0 rfl) ?_
        refine m_get F hI 1 (by decide) rfl flX2_79 dX2_comes_195 ?_
        refine m_ast F hI 7 (show n < 100 by omega) rfl dX2_comes_198 (fun H locs hI => ?_)
        have hI : kI D _ A s.heap (mnw S188 7 n) H locs := hI
        generalize hS198 : mnw S188 7 n = S198 at hI
        refine lv_aload_n hx hb dX2_comes_199 rfl (lv_at hl 0 rfl) ?_
        refine lv_iload_n hx hb dX2_comes_200 rfl (lv_at hl 1 rfl) ?_
        refine lv_iload_n hx hb dX2_comes_201 rfl (lv_at hl 2 rfl) ?_
        refine lv_iload_n hx hb dX2_comes_202 rfl (lv_at hl 3 rfl) ?_
        refine lv_iload hx hb dX2_comes_203 (lv_at hl 5 rfl) ?_
        have h4 : S198.1 4 n = nI sh := by rw [← hS198, mnw, mset_k (by decide), ← hS188, mset_k (by decide), ← hS180, mset_k (by decide), ← hS173, mset_s]
        have h5 : S198.1 5 n = nI 0 := by rw [← hS198, mnw, mset_k (by decide), ← hS188, mset_k (by decide), ← hS180, mset_s]
        have h6 : S198.2.2.2 ≤ 20 := by rw [← hS198, ← hS188, ← hS180, ← hS173, ← hS165, ← hS158]; exact hkm
        have h7 : S198 = m_first st n sh := by rw [m_first, hS158, hS165, hS173, hS180, hS188, hS198]
        refine kcallV (rest := []) F hA hI (mc_joins l _ n pq il z sh 0 hn hp hz hs h4 h5 (fun _ => by omega) h6) kgX2_89 (m_rec F hI) hl.1 rfl rfl (Nat.le_of_ble_eq_true rfl) dX2_comes_205 ⟨Nat.le_of_ble_eq_true rfl, Nat.le_of_ble_eq_true rfl⟩ ⟨Nat.le_of_ble_eq_true rfl, Nat.le_of_ble_eq_true rfl⟩ (fun vq uq H locs hp hI => ?_)
        obtain ⟨rfl, hu⟩ := hp
        rw [hu] at hI
        clear hu
        refine kstk (b := .int _ :: []) rfl ?_
        exact kret_i F hI dX2_comes_208 (⟨by simp [m_comes, hh, hk, hw, h24, ← h7], by simp [m_comes, hh, hk, hw, h24, ← h7]⟩)
  · obtain ⟨sh', zl, q1, q2, q3, q4⟩ := hj hk
    refine lv_aload_n hx hb dX2_comes_0 rfl (lv_at hl 0 rfl) ?_
    refine lv_iload_n hx hb dX2_comes_1 rfl (lv_at hl 1 rfl) ?_
    refine kcallV (rest := []) F hA hI (mc_homeOf l _ n hn) kgX2_61 (m_rec F hI) hl.1 rfl rfl (Nat.le_of_ble_eq_true rfl) dX2_comes_2 ⟨Nat.le_of_ble_eq_true rfl, Nat.le_of_ble_eq_true rfl⟩ ⟨Nat.le_of_ble_eq_true rfl, Nat.le_of_ble_eq_true rfl⟩ (fun vq uq H locs hp hI => ?_)
    obtain ⟨rfl, hu⟩ := hp
    rw [hu] at hI
    clear hu
    refine kstk (b := .int _ :: []) rfl ?_
    refine lv_bipush (v := -9) hx hb dX2_comes_5 (by decide) ?_
    refine lv_icmp_ne (tgt := 13) hx hb dX2_comes_7 (by decide) (fun c7 => ?_) (fun c7 => absurd c7 (hh))
    refine lv_aload_n hx hb dX2_comes_13 rfl (lv_at hl 0 rfl) ?_
    refine m_get F hI 5 (by decide) rfl flX2_17 dX2_comes_14 ?_
    refine lv_iload_n hx hb dX2_comes_17 rfl (lv_at hl 1 rfl) ?_
    refine m_ald F hI  2 (show n < 100 by omega) rfl dX2_comes_18 ?_
    refine lv_bipush (v := -9) hx hb dX2_comes_19 (by decide) ?_
    refine lv_icmp_eq (tgt := 34) hx hb dX2_comes_21 (by decide) (fun c21 => absurd c21 (hk)) (fun c21 => ?_)
    refine lv_aload_n hx hb dX2_comes_24 rfl (lv_at hl 0 rfl) ?_
    refine lv_iload_n hx hb dX2_comes_25 rfl (lv_at hl 1 rfl) ?_
    refine lv_iload_n hx hb dX2_comes_26 rfl (lv_at hl 2 rfl) ?_
    refine lv_iload_n hx hb dX2_comes_27 rfl (lv_at hl 3 rfl) ?_
    refine lv_iload hx hb dX2_comes_28 (lv_at hl 5 rfl) ?_
    refine kcallV (rest := []) F hA hI (mc_joins l _ n pq il z sh' zl hn hp hz q1 q2 q3 q4 hkm) kgX2_89 (m_rec F hI) hl.1 rfl rfl (Nat.le_of_ble_eq_true rfl) dX2_comes_30 ⟨Nat.le_of_ble_eq_true rfl, Nat.le_of_ble_eq_true rfl⟩ ⟨Nat.le_of_ble_eq_true rfl, Nat.le_of_ble_eq_true rfl⟩ (fun vq uq H locs hp hI => ?_)
    obtain ⟨rfl, hu⟩ := hp
    rw [hu] at hI
    clear hu
    refine kstk (b := .int _ :: []) rfl ?_
    exact kret_i F hI dX2_comes_33 (⟨by simp [m_comes, hh, hk], by simp [m_comes, hh, hk]⟩)
theorem mc_piece (st : MS) (n pq : Nat) (il : Bool) (sh z : Nat) (hn : n < 100) (hp : pq < 8) (hs : sh < 5) (hz1 : 1 ≤ z) (hz : z ≤ 1000) (hj : ¬ st.1 2 n = -9 → ∃ sh' zl, sh' < 5 ∧ st.1 4 n = nI sh' ∧ st.1 5 n = nI zl ∧ (¬ (st.1 3 n >>> (nI pq &&& 31)) &&& nI 1 = nI 1 → zl + z < 8192)) (hkm : st.2.2.2 ≤ 20) : kM l yX2_piece cX2_piece 7 (some .int) 4 100 0 0 D (mty K) (mw g K) [.ref (g 0), .int (nI n), .int (nI pq), .int (bI il), .int (nI sh), .int (nI z)] st (fun v u => v = some (.int (nI (m_piece st n pq il sh z).1)) ∧ u = (m_piece st n pq il sh z).2) := by
  refine kM_intro (by decide) (Nat.le_of_ble_eq_true rfl) ?_
  intro p e s m below meth c A ls F hA hI hl
  obtain ⟨hx, hb, hr, hml, hown, hts, hlk, hK, hnm⟩ := id F
  have hl : lv_has ls 7 [(0, .ref (g 0)), (1, .int (nI n)), (2, .int (nI pq)), (3, .int (bI il)), (4, .int (nI sh)), (5, .int (nI z))] := hl
  have g1 : inR (nI n) (nI 0) (nI 99) = true := inR_in (by decide) (by omega) (by omega)
  have g2 : inR (nI pq) (nI 0) (nI 7) = true := inR_in (by decide) (by omega) (by omega)
  have g3 : inR (nI sh) (nI 0) (nI 4) = true := inR_in (by decide) (by omega) (by omega)
  have g4 : inR (nI z) (nI 1) (nI 1000) = true := inR_in (by decide) (by omega) (by omega)
  generalize hq : m_comes st n pq il sh z = q
  have hq7 : q.1 ≤ 7 := by rw [← hq]; exact m_comes_le _ _ _ _ _ _
  refine lv_aload_n hx hb dX2_piece_0 rfl (lv_at hl 0 rfl) ?_
  refine lv_iconst (v := nI 0) hx hb dX2_piece_1 (by decide) ?_
  refine m_putTh F hI flX2_53 dX2_piece_2 (fun H locs hI => ?_)
  refine lv_iload_n hx hb dX2_piece_5 rfl (lv_at hl 1 rfl) ?_
  refine lv_iconst (v := nI 0) hx hb dX2_piece_6 (by decide) ?_
  refine lv_bipush (v := nI 99) hx hb dX2_piece_7 (by decide) ?_
  refine kcallS (rest := []) F hA hI (mc_in l _ _ _ _) kgX2_57 hl.1 rfl rfl (Nat.le_of_ble_eq_true rfl) dX2_piece_9 ⟨Nat.le_of_ble_eq_true rfl, Nat.le_of_ble_eq_true rfl⟩ ⟨Nat.le_of_ble_eq_true rfl, Nat.le_of_ble_eq_true rfl⟩ (fun vq uq H locs hp hI => ?_)
  obtain ⟨rfl, hu⟩ := hp
  rw [hu] at hI
  clear hu
  refine kstk (b := .int _ :: []) rfl ?_
  refine lv_if_eq (tgt := 47) hx hb dX2_piece_12 (by decide) (fun c12 => absurd c12 ((fun q => by rw [bI_z, g1] at q; cases q))) (fun c12 => ?_)
  refine lv_iload_n hx hb dX2_piece_15 rfl (lv_at hl 2 rfl) ?_
  refine lv_iconst (v := nI 0) hx hb dX2_piece_16 (by decide) ?_
  refine lv_bipush (v := nI 7) hx hb dX2_piece_17 (by decide) ?_
  refine kcallS (rest := []) F hA hI (mc_in l _ _ _ _) kgX2_57 hl.1 rfl rfl (Nat.le_of_ble_eq_true rfl) dX2_piece_19 ⟨Nat.le_of_ble_eq_true rfl, Nat.le_of_ble_eq_true rfl⟩ ⟨Nat.le_of_ble_eq_true rfl, Nat.le_of_ble_eq_true rfl⟩ (fun vq uq H locs hp hI => ?_)
  obtain ⟨rfl, hu⟩ := hp
  rw [hu] at hI
  clear hu
  refine kstk (b := .int _ :: []) rfl ?_
  refine lv_if_eq (tgt := 47) hx hb dX2_piece_22 (by decide) (fun c22 => absurd c22 ((fun q => by rw [bI_z, g2] at q; cases q))) (fun c22 => ?_)
  refine lv_iload hx hb dX2_piece_25 (lv_at hl 4 rfl) ?_
  refine lv_iconst (v := nI 0) hx hb dX2_piece_27 (by decide) ?_
  refine lv_iconst (v := nI 4) hx hb dX2_piece_28 (by decide) ?_
  refine kcallS (rest := []) F hA hI (mc_in l _ _ _ _) kgX2_57 hl.1 rfl rfl (Nat.le_of_ble_eq_true rfl) dX2_piece_29 ⟨Nat.le_of_ble_eq_true rfl, Nat.le_of_ble_eq_true rfl⟩ ⟨Nat.le_of_ble_eq_true rfl, Nat.le_of_ble_eq_true rfl⟩ (fun vq uq H locs hp hI => ?_)
  obtain ⟨rfl, hu⟩ := hp
  rw [hu] at hI
  clear hu
  refine kstk (b := .int _ :: []) rfl ?_
  refine lv_if_eq (tgt := 47) hx hb dX2_piece_32 (by decide) (fun c32 => absurd c32 ((fun q => by rw [bI_z, g3] at q; cases q))) (fun c32 => ?_)
  refine lv_iload hx hb dX2_piece_35 (lv_at hl 5 rfl) ?_
  refine lv_iconst (v := nI 1) hx hb dX2_piece_37 (by decide) ?_
  refine lv_sipush (v := nI 1000) hx hb dX2_piece_38 (by decide) ?_
  refine kcallS (rest := []) F hA hI (mc_in l _ _ _ _) kgX2_57 hl.1 rfl rfl (Nat.le_of_ble_eq_true rfl) dX2_piece_41 ⟨Nat.le_of_ble_eq_true rfl, Nat.le_of_ble_eq_true rfl⟩ ⟨Nat.le_of_ble_eq_true rfl, Nat.le_of_ble_eq_true rfl⟩ (fun vq uq H locs hp hI => ?_)
  obtain ⟨rfl, hu⟩ := hp
  rw [hu] at hI
  clear hu
  refine kstk (b := .int _ :: []) rfl ?_
  refine lv_if_ne (tgt := 49) hx hb dX2_piece_44 (by decide) (fun c44 => ?_) (fun c44 => absurd c44 ((fun q => by rw [bI_z, g4] at q; cases q)))
  refine lv_aload_n hx hb dX2_piece_49 rfl (lv_at hl 0 rfl) ?_
  refine lv_iload_n hx hb dX2_piece_50 rfl (lv_at hl 1 rfl) ?_
  refine lv_iload_n hx hb dX2_piece_51 rfl (lv_at hl 2 rfl) ?_
  refine lv_iload_n hx hb dX2_piece_52 rfl (lv_at hl 3 rfl) ?_
  refine lv_iload hx hb dX2_piece_53 (lv_at hl 4 rfl) ?_
  refine lv_iload hx hb dX2_piece_55 (lv_at hl 5 rfl) ?_
  refine kcallV (rest := []) F hA hI (mc_comes l _ n pq il sh z hn hp hs hz hj hkm) kgX2_104 (m_rec F hI) hl.1 rfl rfl (Nat.le_of_ble_eq_true rfl) dX2_piece_57 ⟨Nat.le_of_ble_eq_true rfl, Nat.le_of_ble_eq_true rfl⟩ ⟨Nat.le_of_ble_eq_true rfl, Nat.le_of_ble_eq_true rfl⟩ (fun vq uq H locs hp hI => ?_)
  obtain ⟨rfl, hu⟩ := hp
  rw [hu, hq] at hI
  rw [hq]
  clear hu
  refine kstk (b := .int _ :: []) rfl ?_
  refine lv_istore (lv' := [(6, .int _), (0, .ref _), (1, .int _), (2, .int _), (3, .int _), (4, .int _), (5, .int _)]) hx hb dX2_piece_60 hl (by decide) rfl (fun ls hl => ?_)
  refine lv_iload hx hb dX2_piece_62 (lv_at hl 0 rfl) ?_
  refine lv_iconst (v := nI 3) hx hb dX2_piece_64 (by decide) ?_
  refine lv_icmp_lt (tgt := 81) hx hb dX2_piece_65 (by decide) (fun c65 => ?_) (fun c65 => ?_)
  ·
    rw [nI_ltI (by omega) (by omega)] at c65
    refine lv_iload hx hb dX2_piece_81 (lv_at hl 0 rfl) ?_
    exact kret_i F hI dX2_piece_83 (⟨by simp [m_piece, hq, show ¬ 3 ≤ q.1 by omega], by simp [m_piece, hq, show ¬ 3 ≤ q.1 by omega]⟩)
  ·
    rw [nI_ltI (by omega) (by omega)] at c65
    refine lv_aload_n hx hb dX2_piece_68 rfl (lv_at hl 1 rfl) ?_
    refine m_get F hI 17 (by decide) rfl flX2_50 dX2_piece_69 ?_
    refine lv_iload hx hb dX2_piece_72 (lv_at hl 0 rfl) ?_
    refine lv_iconst (v := nI 2) hx hb dX2_piece_74 (by decide) ?_
    refine lv_iadd hx hb dX2_piece_75 ?_
    refine ktop (y := nI (q.1 + 2)) (nI_add _ _) ?_
    refine lv_dup2_11 hx hb dX2_piece_76 rfl rfl ?_
    refine m_ald F hI  13 (show (q.1 + 2) < 13 by omega) rfl dX2_piece_77 ?_
    refine lv_iconst (v := nI 1) hx hb dX2_piece_78 (by decide) ?_
    refine lv_iadd hx hb dX2_piece_79 ?_
    refine m_ast F hI 13 (show (q.1 + 2) < 13 by omega) rfl dX2_piece_80 (fun H locs hI => ?_)
    refine lv_iload hx hb dX2_piece_81 (lv_at hl 0 rfl) ?_
    exact kret_i F hI dX2_piece_83 (⟨by simp [m_piece, hq, show 3 ≤ q.1 by omega], by simp [m_piece, hq, show 3 ≤ q.1 by omega, m_inc]⟩)
theorem mc_piece_bad (st : MS) (n pq sh z : Int32) (il : Bool) (h : inR n (nI 0) (nI 99) = false ∨ inR pq (nI 0) (nI 7) = false ∨ inR sh (nI 0) (nI 4) = false ∨ inR z (nI 1) (nI 1000) = false) : kM l yX2_piece cX2_piece 7 (some .int) 4 100 0 0 D (mty K) (mw g K) [.ref (g 0), .int n, .int pq, .int (bI il), .int sh, .int z] st (fun v u => v = some (.int (-1)) ∧ u = st) := by
  refine kM_intro (by decide) (Nat.le_of_ble_eq_true rfl) ?_
  intro p e s m below meth c A ls F hA hI hl
  obtain ⟨hx, hb, hr, hml, hown, hts, hlk, hK, hnm⟩ := id F
  have hl : lv_has ls 7 [(0, .ref (g 0)), (1, .int n), (2, .int pq), (3, .int (bI il)), (4, .int sh), (5, .int z)] := hl
  refine lv_aload_n hx hb dX2_piece_0 rfl (lv_at hl 0 rfl) ?_
  refine lv_iconst (v := nI 0) hx hb dX2_piece_1 (by decide) ?_
  refine m_putTh F hI flX2_53 dX2_piece_2 (fun H locs hI => ?_)
  refine lv_iload_n hx hb dX2_piece_5 rfl (lv_at hl 1 rfl) ?_
  refine lv_iconst (v := nI 0) hx hb dX2_piece_6 (by decide) ?_
  refine lv_bipush (v := nI 99) hx hb dX2_piece_7 (by decide) ?_
  refine kcallS (rest := []) F hA hI (mc_in l _ _ _ _) kgX2_57 hl.1 rfl rfl (Nat.le_of_ble_eq_true rfl) dX2_piece_9 ⟨Nat.le_of_ble_eq_true rfl, Nat.le_of_ble_eq_true rfl⟩ ⟨Nat.le_of_ble_eq_true rfl, Nat.le_of_ble_eq_true rfl⟩ (fun vq uq H locs hp hI => ?_)
  obtain ⟨rfl, hu⟩ := hp
  rw [hu] at hI
  clear hu
  refine kstk (b := .int _ :: []) rfl ?_
  refine lv_if_eq (tgt := 47) hx hb dX2_piece_12 (by decide) (fun c12 => ?_) (fun c12 => ?_)
  ·
    rw [bI_z] at c12
    refine lv_iconst (v := -1) hx hb dX2_piece_47 (by decide) ?_
    exact kret_i F hI dX2_piece_48 (⟨rfl, rfl⟩)
  ·
    rw [bI_z] at c12
    refine lv_iload_n hx hb dX2_piece_15 rfl (lv_at hl 2 rfl) ?_
    refine lv_iconst (v := nI 0) hx hb dX2_piece_16 (by decide) ?_
    refine lv_bipush (v := nI 7) hx hb dX2_piece_17 (by decide) ?_
    refine kcallS (rest := []) F hA hI (mc_in l _ _ _ _) kgX2_57 hl.1 rfl rfl (Nat.le_of_ble_eq_true rfl) dX2_piece_19 ⟨Nat.le_of_ble_eq_true rfl, Nat.le_of_ble_eq_true rfl⟩ ⟨Nat.le_of_ble_eq_true rfl, Nat.le_of_ble_eq_true rfl⟩ (fun vq uq H locs hp hI => ?_)
    obtain ⟨rfl, hu⟩ := hp
    rw [hu] at hI
    clear hu
    refine kstk (b := .int _ :: []) rfl ?_
    refine lv_if_eq (tgt := 47) hx hb dX2_piece_22 (by decide) (fun c22 => ?_) (fun c22 => ?_)
    ·
      rw [bI_z] at c22
      refine lv_iconst (v := -1) hx hb dX2_piece_47 (by decide) ?_
      exact kret_i F hI dX2_piece_48 (⟨rfl, rfl⟩)
    ·
      rw [bI_z] at c22
      refine lv_iload hx hb dX2_piece_25 (lv_at hl 4 rfl) ?_
      refine lv_iconst (v := nI 0) hx hb dX2_piece_27 (by decide) ?_
      refine lv_iconst (v := nI 4) hx hb dX2_piece_28 (by decide) ?_
      refine kcallS (rest := []) F hA hI (mc_in l _ _ _ _) kgX2_57 hl.1 rfl rfl (Nat.le_of_ble_eq_true rfl) dX2_piece_29 ⟨Nat.le_of_ble_eq_true rfl, Nat.le_of_ble_eq_true rfl⟩ ⟨Nat.le_of_ble_eq_true rfl, Nat.le_of_ble_eq_true rfl⟩ (fun vq uq H locs hp hI => ?_)
      obtain ⟨rfl, hu⟩ := hp
      rw [hu] at hI
      clear hu
      refine kstk (b := .int _ :: []) rfl ?_
      refine lv_if_eq (tgt := 47) hx hb dX2_piece_32 (by decide) (fun c32 => ?_) (fun c32 => ?_)
      ·
        rw [bI_z] at c32
        refine lv_iconst (v := -1) hx hb dX2_piece_47 (by decide) ?_
        exact kret_i F hI dX2_piece_48 (⟨rfl, rfl⟩)
      ·
        rw [bI_z] at c32
        refine lv_iload hx hb dX2_piece_35 (lv_at hl 5 rfl) ?_
        refine lv_iconst (v := nI 1) hx hb dX2_piece_37 (by decide) ?_
        refine lv_sipush (v := nI 1000) hx hb dX2_piece_38 (by decide) ?_
        refine kcallS (rest := []) F hA hI (mc_in l _ _ _ _) kgX2_57 hl.1 rfl rfl (Nat.le_of_ble_eq_true rfl) dX2_piece_41 ⟨Nat.le_of_ble_eq_true rfl, Nat.le_of_ble_eq_true rfl⟩ ⟨Nat.le_of_ble_eq_true rfl, Nat.le_of_ble_eq_true rfl⟩ (fun vq uq H locs hp hI => ?_)
        obtain ⟨rfl, hu⟩ := hp
        rw [hu] at hI
        clear hu
        refine kstk (b := .int _ :: []) rfl ?_
        refine lv_if_ne (tgt := 49) hx hb dX2_piece_44 (by decide) (fun c44 => absurd c44 ((fun q => q (bI_z.mpr ((h.resolve_left c12).resolve_left c22 |>.resolve_left c32))))) (fun c44 => ?_)
        refine lv_iconst (v := -1) hx hb dX2_piece_47 (by decide) ?_
        exact kret_i F hI dX2_piece_48 (⟨rfl, rfl⟩)
theorem mc_tick (st : MS) (nt : Nat) (h1 : 1 ≤ nt) (h60 : nt ≤ 60) (hok : mokT st) : kM l yX2_tick cX2_tick 5 (some .int) 2 50 0 0 D (mty K) (mw g K) [.ref (g 0), .int (nI nt)] st (fun v u => v = some (.int ((m_tkL nt st).1 13 10 - st.1 13 10)) ∧ u = m_tkL nt st) := by
  refine kM_intro (by decide) (Nat.le_of_ble_eq_true rfl) ?_
  intro p e s m below meth c A ls F hA hI hl
  obtain ⟨hx, hb, hr, hml, hown, hts, hlk, hK, hnm⟩ := id F
  have hl : lv_has ls 5 [(0, .ref (g 0)), (1, .int (nI nt))] := hl
  have g1 : inR (nI nt) (nI 1) (nI 60) = true := inR_in (by decide) (by omega) (by omega)
  refine lv_aload_n hx hb dX2_tick_0 rfl (lv_at hl 0 rfl) ?_
  refine lv_iconst (v := nI 0) hx hb dX2_tick_1 (by decide) ?_
  refine m_putTh F hI flX2_53 dX2_tick_2 (fun H locs hI => ?_)
  refine lv_iload_n hx hb dX2_tick_5 rfl (lv_at hl 1 rfl) ?_
  refine lv_iconst (v := nI 1) hx hb dX2_tick_6 (by decide) ?_
  refine lv_bipush (v := nI 60) hx hb dX2_tick_7 (by decide) ?_
  refine kcallS (rest := []) F hA hI (mc_in l _ _ _ _) kgX2_57 hl.1 rfl rfl (Nat.le_of_ble_eq_true rfl) dX2_tick_9 ⟨Nat.le_of_ble_eq_true rfl, Nat.le_of_ble_eq_true rfl⟩ ⟨Nat.le_of_ble_eq_true rfl, Nat.le_of_ble_eq_true rfl⟩ (fun vq uq H locs hp hI => ?_)
  obtain ⟨rfl, hu⟩ := hp
  rw [hu] at hI
  clear hu
  refine kstk (b := .int _ :: []) rfl ?_
  refine lv_if_ne (tgt := 17) hx hb dX2_tick_12 (by decide) (fun c12 => ?_) (fun c12 => absurd c12 ((fun q => by rw [bI_z, g1] at q; cases q)))
  refine lv_aload_n hx hb dX2_tick_17 rfl (lv_at hl 0 rfl) ?_
  refine m_get F hI 17 (by decide) rfl flX2_50 dX2_tick_18 ?_
  refine lv_bipush (v := nI 10) hx hb dX2_tick_21 (by decide) ?_
  refine m_ald F hI  13 (show 10 < 13 by omega) rfl dX2_tick_23 ?_
  refine lv_istore_n (lv' := [(2, .int _), (0, .ref _), (1, .int _)]) hx hb dX2_tick_24 rfl hl (by decide) rfl (fun ls hl => ?_)
  refine lv_iconst (v := nI 0) hx hb dX2_tick_25 (by decide) ?_
  refine lv_istore_n (lv' := [(3, .int _), (2, .int _), (0, .ref _), (1, .int _)]) hx hb dX2_tick_26 rfl hl (by decide) rfl (fun ls hl => ?_)
  refine wloop (σ := Nat × Nat × MS) (fun x => x.1) (fun x H locs ls => x.2.1 + x.1 = nt ∧ m_tkL x.1 x.2.2 = m_tkL nt st ∧ mokT x.2.2 ∧ kI D (mw g K) A s.heap x.2.2 H locs ∧ lv_has ls 5 [(3, .int (nI x.2.1)), (2, .int (st.1 13 10)), (0, .ref (g 0)), (1, .int (nI nt))]) ?_ (nt, 0, st) _ _ _ ⟨Nat.zero_add _, rfl, hok, hI, lv_sub hl [0, 1, 2, 3] rfl⟩
  rintro ⟨f, t, u⟩ H locs ls ⟨hk, he, hok, hI, hl⟩ ih
  dsimp only at hk he hok hI hl ih
  refine lv_iload_n hx hb dX2_tick_27 rfl (lv_at hl 0 rfl) ?_
  refine lv_iload_n hx hb dX2_tick_28 rfl (lv_at hl 3 rfl) ?_
  refine lv_icmp_ge (tgt := 104) hx hb dX2_tick_29 (by decide) (fun c29 => ?_) (fun c29 => ?_)
  ·
    rw [nI_leI (by omega) (by omega)] at c29
    obtain rfl : f = 0 := by omega
    have he : u = m_tkL nt st := he
    refine lv_aload_n hx hb dX2_tick_104 rfl (lv_at hl 2 rfl) ?_
    refine m_get F hI 17 (by decide) rfl flX2_50 dX2_tick_105 ?_
    refine lv_bipush (v := nI 10) hx hb dX2_tick_108 (by decide) ?_
    refine m_ald F hI  13 (show 10 < 13 by omega) rfl dX2_tick_110 ?_
    refine lv_iload_n hx hb dX2_tick_111 rfl (lv_at hl 1 rfl) ?_
    refine lv_isub hx hb dX2_tick_112 ?_
    exact kret_i F hI dX2_tick_113 (⟨by rw [he], he⟩)
  ·
    rw [nI_leI (by omega) (by omega)] at c29
    obtain ⟨f, rfl⟩ : ∃ f', f = f' + 1 := ⟨f - 1, by omega⟩
    refine lv_aload_n hx hb dX2_tick_32 rfl (lv_at hl 2 rfl) ?_
    refine lv_dup hx hb dX2_tick_33 rfl ?_
    refine m_get F hI 1 (by decide) rfl flX2_79 dX2_tick_34 ?_
    refine lv_iconst (v := nI 1) hx hb dX2_tick_37 (by decide) ?_
    refine lv_iadd hx hb dX2_tick_38 ?_
    refine m_putNow F hI flX2_79 dX2_tick_39 (fun H locs hI => ?_)
    refine lv_iconst (v := nI 0) hx hb dX2_tick_42 (by decide) ?_
    refine lv_istore (lv' := [(4, .int _), (3, .int _), (2, .int _), (0, .ref _), (1, .int _)]) hx hb dX2_tick_43 hl (by decide) rfl (fun ls hl => ?_)
    refine wloop (σ := Nat × Nat × MS) (fun x => x.1) (fun x H locs ls => x.2.1 + x.1 = 100 ∧ m_tkN x.1 x.2.1 x.2.2 = m_tk1 u ∧ mokT x.2.2 ∧ kI D (mw g K) A s.heap x.2.2 H locs ∧ lv_has ls 5 [(4, .int (nI x.2.1)), (3, .int (nI t)), (2, .int (st.1 13 10)), (0, .ref (g 0)), (1, .int (nI nt))]) ?_ (100, 0, mnow u (u.2.1 + nI 1)) _ _ _ ⟨rfl, rfl, hok, hI, lv_sub hl [0, 1, 2, 3, 4] rfl⟩
    rintro ⟨f2, k, u2⟩ H locs ls ⟨hk2, he2, hok2, hI, hl⟩ ih2
    dsimp only at hk2 he2 hok2 hI hl ih2
    refine lv_iload hx hb dX2_tick_45 (lv_at hl 0 rfl) ?_
    refine lv_bipush (v := nI 100) hx hb dX2_tick_47 (by decide) ?_
    refine lv_icmp_ge (tgt := 98) hx hb dX2_tick_49 (by decide) (fun c49 => ?_) (fun c49 => ?_)
    ·
      rw [nI_leI (by omega) (by omega)] at c49
      obtain rfl : f2 = 0 := by omega
      have he2 : u2 = m_tk1 u := he2
      refine lv_iinc (v := nI (t + 1)) (lv' := [(3, .int _), (4, .int _), (2, .int _), (0, .ref _), (1, .int _)]) hx hb dX2_tick_98 hl (k := 1) rfl (kinc _ 1) (by decide) rfl (fun ls hl => ?_)
      refine lv_goto (tgt := 27) hx hb dX2_tick_101 (by decide) ?_
      exact ih (f, t + 1, u2) _ _ _ (by show f < f + 1; omega) ⟨by show t + 1 + f = _; omega, by rw [← he]; show m_tkL f u2 = m_tkL f (m_tk1 u); rw [he2], hok2, hI, lv_sub hl [0, 2, 3, 4] rfl⟩
    ·
      rw [nI_leI (by omega) (by omega)] at c49
      obtain ⟨f2, rfl⟩ : ∃ f', f2 = f' + 1 := ⟨f2 - 1, by omega⟩
      refine lv_aload_n hx hb dX2_tick_52 rfl (lv_at hl 3 rfl) ?_
      refine m_get F hI 5 (by decide) rfl flX2_17 dX2_tick_53 ?_
      refine lv_iload hx hb dX2_tick_56 (lv_at hl 0 rfl) ?_
      refine m_ald F hI  2 (show k < 100 by omega) rfl dX2_tick_58 ?_
      refine lv_bipush (v := -9) hx hb dX2_tick_59 (by decide) ?_
      refine lv_icmp_eq (tgt := 92) hx hb dX2_tick_61 (by decide) (fun c61 => ?_) (fun c61 => ?_)
      ·
        refine lv_iinc (v := nI (k + 1)) (lv' := [(4, .int _), (3, .int _), (2, .int _), (0, .ref _), (1, .int _)]) hx hb dX2_tick_92 hl (k := 0) rfl (kinc _ 1) (by decide) rfl (fun ls hl => ?_)
        refine lv_goto (tgt := 45) hx hb dX2_tick_95 (by decide) ?_
        exact ih2 (f2, k + 1, u2) _ _ _ (by show f2 < f2 + 1; omega) ⟨by show k + 1 + f2 = _; omega, by rw [← he2]; show _ = m_tkN f2 (k + 1) (m_tkK u2 k); simp [m_tkK, c61], hok2, hI, lv_sub hl [0, 1, 2, 3, 4] rfl⟩
      ·
        refine lv_aload_n hx hb dX2_tick_64 rfl (lv_at hl 3 rfl) ?_
        refine m_get F hI 1 (by decide) rfl flX2_79 dX2_tick_65 ?_
        refine lv_aload_n hx hb dX2_tick_68 rfl (lv_at hl 3 rfl) ?_
        refine m_get F hI 10 (by decide) rfl flX2_32 dX2_tick_69 ?_
        refine lv_iload hx hb dX2_tick_72 (lv_at hl 0 rfl) ?_
        refine m_ald F hI  7 (show k < 100 by omega) rfl dX2_tick_74 ?_
        refine lv_isub hx hb dX2_tick_75 ?_
        refine lv_aload_n hx hb dX2_tick_76 rfl (lv_at hl 3 rfl) ?_
        refine m_get F hI 4 (by decide) rfl flX2_13 dX2_tick_77 ?_
        refine lv_iconst (v := nI 4) hx hb dX2_tick_80 (by decide) ?_
        refine m_ald F hI  1 (show 4 < 6 by omega) rfl dX2_tick_81 ?_
        refine lv_icmp_lt (tgt := 92) hx hb dX2_tick_82 (by decide) (fun c82 => ?_) (fun c82 => ?_)
        ·
          refine lv_iinc (v := nI (k + 1)) (lv' := [(4, .int _), (3, .int _), (2, .int _), (0, .ref _), (1, .int _)]) hx hb dX2_tick_92 hl (k := 0) rfl (kinc _ 1) (by decide) rfl (fun ls hl => ?_)
          refine lv_goto (tgt := 45) hx hb dX2_tick_95 (by decide) ?_
          exact ih2 (f2, k + 1, u2) _ _ _ (by show f2 < f2 + 1; omega) ⟨by show k + 1 + f2 = _; omega, by rw [← he2]; show _ = m_tkN f2 (k + 1) (m_tkK u2 k); simp [m_tkK, c61, c82], hok2, hI, lv_sub hl [0, 1, 2, 3, 4] rfl⟩
        ·
          obtain ⟨sh, z, q1, q2, q3, q4⟩ := hok2.1 k (by omega) c61
          refine lv_aload_n hx hb dX2_tick_85 rfl (lv_at hl 3 rfl) ?_
          refine lv_iload hx hb dX2_tick_86 (lv_at hl 0 rfl) ?_
          refine lv_iconst (v := nI 1) hx hb dX2_tick_88 (by decide) ?_
          refine kcallV (rest := []) F hA hI (mc_decides l _ k sh z true (by omega) q1 q2 q3 q4 hok2.2) kgX2_85 (m_rec F hI) hl.1 rfl rfl (Nat.le_of_ble_eq_true rfl) dX2_tick_89 ⟨Nat.le_of_ble_eq_true rfl, Nat.le_of_ble_eq_true rfl⟩ ⟨Nat.le_of_ble_eq_true rfl, Nat.le_of_ble_eq_true rfl⟩ (fun vq uq H locs hp hI => ?_)
          obtain ⟨rfl, hu⟩ := hp
          rw [hu] at hI
          clear hu
          refine kstk (b := []) rfl ?_
          refine lv_iinc (v := nI (k + 1)) (lv' := [(4, .int _), (3, .int _), (2, .int _), (0, .ref _), (1, .int _)]) hx hb dX2_tick_92 hl (k := 0) rfl (kinc _ 1) (by decide) rfl (fun ls hl => ?_)
          refine lv_goto (tgt := 45) hx hb dX2_tick_95 (by decide) ?_
          exact ih2 (f2, k + 1, m_dec u2 k true) _ _ _ (by show f2 < f2 + 1; omega) ⟨by show k + 1 + f2 = _; omega, by rw [← he2]; show _ = m_tkN f2 (k + 1) (m_tkK u2 k); simp [m_tkK, c61, c82], mokT_dec k true hok2, hI, lv_sub hl [0, 1, 2, 3, 4] rfl⟩
end MC4
end
section
/-! the reference: what it answers -/
def m_wval (st : MS) (n : Nat) : Nat → Int32
  | 0 => st.1 2 n
  | 1 => st.1 3 n
  | 2 => st.1 4 n
  | 3 => st.1 5 n
  | 4 => st.1 6 n
  | _ => st.2.1 - st.1 7 n
def m_waits (st : MS) (n w : Nat) : Int32 := if st.1 2 n = -9 then -9 else m_wval st n w
def m_rem (st : MS) (n : Nat) : Int32 := if m_known st n = true then (if m_keptAt st n = -9 then nI 0 else nI 1) else -9
def m_shift : Nat → Nat → MS → MS
  | 0, _, st => st
  | f + 1, k, st => m_shift f (k + 1) (mcp st 10 k 10 (k + 8))
def m_tk8 (st : MS) (i n : Nat) : MS := if st.1 8 n = st.1 10 (8 * i + 7) then mset st 8 n (nI 0) else st
def m_takeA (st : MS) (sh : Nat) (w : Int32) : MS := madd (mset st 11 (7 * sh + 1) (st.1 11 (7 * sh + 1) - w)) 11 (7 * sh + 2) w
def m_take (st : MS) (i n sh : Nat) : MS := mkm (m_shift (8 * st.2.2.2 - 8 - 8 * i) (8 * i) (m_tk8 (m_takeA st sh (st.1 10 (8 * i + 4))) i n)) (st.2.2.2 - 1)
def sumN (f : Nat → Nat) : Nat → Nat
  | 0 => 0
  | n + 1 => sumN f n + f n
def bndL (sN : Nat → Nat) (T a b : Nat) : Nat → Nat → Nat
  | 0, j => j
  | f + 1, j => if sumN sN (j + 1) * b < a * T then bndL sN T a b f (j + 1) else j
def bnd (sN : Nat → Nat) (T a b : Nat) : Nat := bndL sN T a b 13 0
def bval (j w : Nat) : Int32 := if w = 1 then nI 1 <<< (nI j &&& 31) else if j = 0 then nI 0 else nI 1 <<< ((nI j - nI 1) &&& 31)
theorem sumN_le (f : Nat → Nat) {a b : Nat} (h : a ≤ b) : sumN f a ≤ sumN f b := by
  induction b with
  | zero => rw [show a = 0 by omega]; exact Nat.le_refl _
  | succ b ih =>
    by_cases e : a = b + 1
    · rw [e]; exact Nat.le_refl _
    · have := ih (by omega)
      show sumN f a ≤ sumN f b + f b
      omega
def m_upL (st : MS) : Nat → Nat → Int32 → Int32
  | 0, _, v => v
  | f + 1, k, v => m_upL st f (k + 1) (if st.1 0 k = 0 then v + nI 1 else v + nI 0)
def m_count (st : MS) (w : Nat) : Int32 := if w = 0 then st.2.1 else if w = 1 then m_wm st else if w = 2 then nI st.2.2.2 else if w = 12 then m_upL st 4 0 (nI 0) else st.1 13 w
theorem kmR {x : Int32} {km : Nat} (hk : km ≤ 20) : inR x (nI 0) (nI km - nI 1) = true ↔ ∃ j, j < km ∧ x = nI j := by
  constructor
  · intro h
    by_cases h0 : km = 0
    · exfalso
      subst h0
      simp only [inR, decide_eq_true_eq] at h
      have e1 : (nI 0 - nI 1).toInt = -1 := by decide
      have e2 : (nI 0).toInt = 0 := by decide
      rw [Int32.lt_iff_toInt_lt, Int32.lt_iff_toInt_lt] at h
      omega
    · rw [pk_sub (by omega)] at h
      obtain ⟨j, h1, h2, h3⟩ := inR_nat (by decide) (by omega) h
      exact ⟨j, by omega, h3⟩
  · rintro ⟨j, h1, rfl⟩
    rw [pk_sub (by omega)]
    exact inR_in (by omega) (by omega) (by omega)
section MC5
variable (l : Launch) {D : va_G} {g : Nat → Nat} {K : Nat → ClassId}
theorem mc_tick_bad (st : MS) (x : Int32) (h : inR x (nI 1) (nI 60) = false) : kM l yX2_tick cX2_tick 5 (some .int) 2 50 0 0 D (mty K) (mw g K) [.ref (g 0), .int x] st (fun v u => v = some (.int (-1)) ∧ u = st) := by
  refine kM_intro (by decide) (Nat.le_of_ble_eq_true rfl) ?_
  intro p e s m below meth c A ls F hA hI hl
  obtain ⟨hx, hb, hr, hml, hown, hts, hlk, hK, hnm⟩ := id F
  have hl : lv_has ls 5 [(0, .ref (g 0)), (1, .int x)] := hl
  refine lv_aload_n hx hb dX2_tick_0 rfl (lv_at hl 0 rfl) ?_
  refine lv_iconst (v := nI 0) hx hb dX2_tick_1 (by decide) ?_
  refine m_putTh F hI flX2_53 dX2_tick_2 (fun H locs hI => ?_)
  refine lv_iload_n hx hb dX2_tick_5 rfl (lv_at hl 1 rfl) ?_
  refine lv_iconst (v := nI 1) hx hb dX2_tick_6 (by decide) ?_
  refine lv_bipush (v := nI 60) hx hb dX2_tick_7 (by decide) ?_
  refine kcallS (rest := []) F hA hI (mc_in l _ _ _ _) kgX2_57 hl.1 rfl rfl (Nat.le_of_ble_eq_true rfl) dX2_tick_9 ⟨Nat.le_of_ble_eq_true rfl, Nat.le_of_ble_eq_true rfl⟩ ⟨Nat.le_of_ble_eq_true rfl, Nat.le_of_ble_eq_true rfl⟩ (fun vq uq H locs hp hI => ?_)
  obtain ⟨rfl, hu⟩ := hp
  rw [hu] at hI
  clear hu
  refine kstk (b := .int _ :: []) rfl ?_
  refine lv_if_ne (tgt := 17) hx hb dX2_tick_12 (by decide) (fun c12 => absurd c12 ((fun q => q (bI_z.mpr h)))) (fun c12 => ?_)
  refine lv_iconst (v := -1) hx hb dX2_tick_15 (by decide) ?_
  exact kret_i F hI dX2_tick_16 (⟨rfl, rfl⟩)
theorem mc_waits_bad (st : MS) (x w : Int32) (h : inR x (nI 0) (nI 99) = false ∨ inR w (nI 0) (nI 5) = false) : kM l yX2_waits cX2_waits 3 (some .int) 1 22 0 0 D (mty K) (mw g K) [.ref (g 0), .int x, .int w] st (fun v u => v = some (.int (-1)) ∧ u = st) := by
  refine kM_intro (by decide) (Nat.le_of_ble_eq_true rfl) ?_
  intro p e s m below meth c A ls F hA hI hl
  obtain ⟨hx, hb, hr, hml, hown, hts, hlk, hK, hnm⟩ := id F
  have hl : lv_has ls 3 [(0, .ref (g 0)), (1, .int x), (2, .int w)] := hl
  refine lv_aload_n hx hb dX2_waits_0 rfl (lv_at hl 0 rfl) ?_
  refine lv_iconst (v := nI 0) hx hb dX2_waits_1 (by decide) ?_
  refine m_putTh F hI flX2_53 dX2_waits_2 (fun H locs hI => ?_)
  refine lv_iload_n hx hb dX2_waits_5 rfl (lv_at hl 1 rfl) ?_
  refine lv_iconst (v := nI 0) hx hb dX2_waits_6 (by decide) ?_
  refine lv_bipush (v := nI 99) hx hb dX2_waits_7 (by decide) ?_
  refine kcallS (rest := []) F hA hI (mc_in l _ _ _ _) kgX2_57 hl.1 rfl rfl (Nat.le_of_ble_eq_true rfl) dX2_waits_9 ⟨Nat.le_of_ble_eq_true rfl, Nat.le_of_ble_eq_true rfl⟩ ⟨Nat.le_of_ble_eq_true rfl, Nat.le_of_ble_eq_true rfl⟩ (fun vq uq H locs hp hI => ?_)
  obtain ⟨rfl, hu⟩ := hp
  rw [hu] at hI
  clear hu
  refine kstk (b := .int _ :: []) rfl ?_
  refine lv_if_eq (tgt := 24) hx hb dX2_waits_12 (by decide) (fun c12 => ?_) (fun c12 => ?_)
  ·
    rw [bI_z] at c12
    refine lv_iconst (v := -1) hx hb dX2_waits_24 (by decide) ?_
    exact kret_i F hI dX2_waits_25 (⟨rfl, rfl⟩)
  ·
    rw [bI_z] at c12
    refine lv_iload_n hx hb dX2_waits_15 rfl (lv_at hl 2 rfl) ?_
    refine lv_iconst (v := nI 0) hx hb dX2_waits_16 (by decide) ?_
    refine lv_iconst (v := nI 5) hx hb dX2_waits_17 (by decide) ?_
    refine kcallS (rest := []) F hA hI (mc_in l _ _ _ _) kgX2_57 hl.1 rfl rfl (Nat.le_of_ble_eq_true rfl) dX2_waits_18 ⟨Nat.le_of_ble_eq_true rfl, Nat.le_of_ble_eq_true rfl⟩ ⟨Nat.le_of_ble_eq_true rfl, Nat.le_of_ble_eq_true rfl⟩ (fun vq uq H locs hp hI => ?_)
    obtain ⟨rfl, hu⟩ := hp
    rw [hu] at hI
    clear hu
    refine kstk (b := .int _ :: []) rfl ?_
    refine lv_if_ne (tgt := 26) hx hb dX2_waits_21 (by decide) (fun c21 => absurd c21 ((fun q => q (bI_z.mpr (h.resolve_left c12))))) (fun c21 => ?_)
    refine lv_iconst (v := -1) hx hb dX2_waits_24 (by decide) ?_
    exact kret_i F hI dX2_waits_25 (⟨rfl, rfl⟩)
theorem mc_waits (st : MS) (n w : Nat) (hn : n < 100) (hw : w < 6) : kM l yX2_waits cX2_waits 3 (some .int) 1 22 0 0 D (mty K) (mw g K) [.ref (g 0), .int (nI n), .int (nI w)] st (fun v u => v = some (.int (m_waits st n w)) ∧ u = st) := by
  refine kM_intro (by decide) (Nat.le_of_ble_eq_true rfl) ?_
  intro p e s m below meth c A ls F hA hI hl
  obtain ⟨hx, hb, hr, hml, hown, hts, hlk, hK, hnm⟩ := id F
  have hl : lv_has ls 3 [(0, .ref (g 0)), (1, .int (nI n)), (2, .int (nI w))] := hl
  have g1 : inR (nI n) (nI 0) (nI 99) = true := inR_in (by decide) (by omega) (by omega)
  have g2 : inR (nI w) (nI 0) (nI 5) = true := inR_in (by decide) (by omega) (by omega)
  by_cases hk : st.1 2 n = -9
  · have hl := hl
    refine lv_aload_n hx hb dX2_waits_0 rfl (lv_at hl 0 rfl) ?_
    refine lv_iconst (v := nI 0) hx hb dX2_waits_1 (by decide) ?_
    refine m_putTh F hI flX2_53 dX2_waits_2 (fun H locs hI => ?_)
    refine lv_iload_n hx hb dX2_waits_5 rfl (lv_at hl 1 rfl) ?_
    refine lv_iconst (v := nI 0) hx hb dX2_waits_6 (by decide) ?_
    refine lv_bipush (v := nI 99) hx hb dX2_waits_7 (by decide) ?_
    refine kcallS (rest := []) F hA hI (mc_in l _ _ _ _) kgX2_57 hl.1 rfl rfl (Nat.le_of_ble_eq_true rfl) dX2_waits_9 ⟨Nat.le_of_ble_eq_true rfl, Nat.le_of_ble_eq_true rfl⟩ ⟨Nat.le_of_ble_eq_true rfl, Nat.le_of_ble_eq_true rfl⟩ (fun vq uq H locs hp hI => ?_)
    obtain ⟨rfl, hu⟩ := hp
    rw [hu] at hI
    clear hu
    refine kstk (b := .int _ :: []) rfl ?_
    refine lv_if_eq (tgt := 24) hx hb dX2_waits_12 (by decide) (fun c12 => absurd c12 ((fun q => by rw [bI_z, g1] at q; cases q))) (fun c12 => ?_)
    refine lv_iload_n hx hb dX2_waits_15 rfl (lv_at hl 2 rfl) ?_
    refine lv_iconst (v := nI 0) hx hb dX2_waits_16 (by decide) ?_
    refine lv_iconst (v := nI 5) hx hb dX2_waits_17 (by decide) ?_
    refine kcallS (rest := []) F hA hI (mc_in l _ _ _ _) kgX2_57 hl.1 rfl rfl (Nat.le_of_ble_eq_true rfl) dX2_waits_18 ⟨Nat.le_of_ble_eq_true rfl, Nat.le_of_ble_eq_true rfl⟩ ⟨Nat.le_of_ble_eq_true rfl, Nat.le_of_ble_eq_true rfl⟩ (fun vq uq H locs hp hI => ?_)
    obtain ⟨rfl, hu⟩ := hp
    rw [hu] at hI
    clear hu
    refine kstk (b := .int _ :: []) rfl ?_
    refine lv_if_ne (tgt := 26) hx hb dX2_waits_21 (by decide) (fun c21 => ?_) (fun c21 => absurd c21 ((fun q => by rw [bI_z, g2] at q; cases q)))
    refine lv_aload_n hx hb dX2_waits_26 rfl (lv_at hl 0 rfl) ?_
    refine m_get F hI 5 (by decide) rfl flX2_17 dX2_waits_27 ?_
    refine lv_iload_n hx hb dX2_waits_30 rfl (lv_at hl 1 rfl) ?_
    refine m_ald F hI  2 (show n < 100 by omega) rfl dX2_waits_31 ?_
    refine lv_bipush (v := -9) hx hb dX2_waits_32 (by decide) ?_
    refine lv_icmp_ne (tgt := 40) hx hb dX2_waits_34 (by decide) (fun c34 => absurd c34 ((fun q => q hk))) (fun c34 => ?_)
    refine lv_bipush (v := -9) hx hb dX2_waits_37 (by decide) ?_
    exact kret_i F hI dX2_waits_39 (⟨by simp [m_waits, hk], rfl⟩)
  · rcases (show w = 0 ∨ w = 1 ∨ w = 2 ∨ w = 3 ∨ w = 4 ∨ w = 5 by omega) with rfl | rfl | rfl | rfl | rfl | rfl
    · have hl := hl
      refine lv_aload_n hx hb dX2_waits_0 rfl (lv_at hl 0 rfl) ?_
      refine lv_iconst (v := nI 0) hx hb dX2_waits_1 (by decide) ?_
      refine m_putTh F hI flX2_53 dX2_waits_2 (fun H locs hI => ?_)
      refine lv_iload_n hx hb dX2_waits_5 rfl (lv_at hl 1 rfl) ?_
      refine lv_iconst (v := nI 0) hx hb dX2_waits_6 (by decide) ?_
      refine lv_bipush (v := nI 99) hx hb dX2_waits_7 (by decide) ?_
      refine kcallS (rest := []) F hA hI (mc_in l _ _ _ _) kgX2_57 hl.1 rfl rfl (Nat.le_of_ble_eq_true rfl) dX2_waits_9 ⟨Nat.le_of_ble_eq_true rfl, Nat.le_of_ble_eq_true rfl⟩ ⟨Nat.le_of_ble_eq_true rfl, Nat.le_of_ble_eq_true rfl⟩ (fun vq uq H locs hp hI => ?_)
      obtain ⟨rfl, hu⟩ := hp
      rw [hu] at hI
      clear hu
      refine kstk (b := .int _ :: []) rfl ?_
      refine lv_if_eq (tgt := 24) hx hb dX2_waits_12 (by decide) (fun c12 => absurd c12 ((fun q => by rw [bI_z, g1] at q; cases q))) (fun c12 => ?_)
      refine lv_iload_n hx hb dX2_waits_15 rfl (lv_at hl 2 rfl) ?_
      refine lv_iconst (v := nI 0) hx hb dX2_waits_16 (by decide) ?_
      refine lv_iconst (v := nI 5) hx hb dX2_waits_17 (by decide) ?_
      refine kcallS (rest := []) F hA hI (mc_in l _ _ _ _) kgX2_57 hl.1 rfl rfl (Nat.le_of_ble_eq_true rfl) dX2_waits_18 ⟨Nat.le_of_ble_eq_true rfl, Nat.le_of_ble_eq_true rfl⟩ ⟨Nat.le_of_ble_eq_true rfl, Nat.le_of_ble_eq_true rfl⟩ (fun vq uq H locs hp hI => ?_)
      obtain ⟨rfl, hu⟩ := hp
      rw [hu] at hI
      clear hu
      refine kstk (b := .int _ :: []) rfl ?_
      refine lv_if_ne (tgt := 26) hx hb dX2_waits_21 (by decide) (fun c21 => ?_) (fun c21 => absurd c21 ((fun q => by rw [bI_z, g2] at q; cases q)))
      refine lv_aload_n hx hb dX2_waits_26 rfl (lv_at hl 0 rfl) ?_
      refine m_get F hI 5 (by decide) rfl flX2_17 dX2_waits_27 ?_
      refine lv_iload_n hx hb dX2_waits_30 rfl (lv_at hl 1 rfl) ?_
      refine m_ald F hI  2 (show n < 100 by omega) rfl dX2_waits_31 ?_
      refine lv_bipush (v := -9) hx hb dX2_waits_32 (by decide) ?_
      refine lv_icmp_ne (tgt := 40) hx hb dX2_waits_34 (by decide) (fun c34 => ?_) (fun c34 => absurd c34 (hk))
      refine lv_iload_n hx hb dX2_waits_40 rfl (lv_at hl 2 rfl) ?_
      refine lv_tableIn (off := 35) (tgt := 76) hx hb dX2_waits_41 (by decide) (by decide) (by decide) (by decide) ?_
      refine lv_aload_n hx hb dX2_waits_76 rfl (lv_at hl 0 rfl) ?_
      refine m_get F hI 5 (by decide) rfl flX2_17 dX2_waits_77 ?_
      refine lv_iload_n hx hb dX2_waits_80 rfl (lv_at hl 1 rfl) ?_
      refine m_ald F hI  2 (show n < 100 by omega) rfl dX2_waits_81 ?_
      exact kret_i F hI dX2_waits_82 (⟨by simp [m_waits, hk, m_wval], rfl⟩)
    · have hl := hl
      refine lv_aload_n hx hb dX2_waits_0 rfl (lv_at hl 0 rfl) ?_
      refine lv_iconst (v := nI 0) hx hb dX2_waits_1 (by decide) ?_
      refine m_putTh F hI flX2_53 dX2_waits_2 (fun H locs hI => ?_)
      refine lv_iload_n hx hb dX2_waits_5 rfl (lv_at hl 1 rfl) ?_
      refine lv_iconst (v := nI 0) hx hb dX2_waits_6 (by decide) ?_
      refine lv_bipush (v := nI 99) hx hb dX2_waits_7 (by decide) ?_
      refine kcallS (rest := []) F hA hI (mc_in l _ _ _ _) kgX2_57 hl.1 rfl rfl (Nat.le_of_ble_eq_true rfl) dX2_waits_9 ⟨Nat.le_of_ble_eq_true rfl, Nat.le_of_ble_eq_true rfl⟩ ⟨Nat.le_of_ble_eq_true rfl, Nat.le_of_ble_eq_true rfl⟩ (fun vq uq H locs hp hI => ?_)
      obtain ⟨rfl, hu⟩ := hp
      rw [hu] at hI
      clear hu
      refine kstk (b := .int _ :: []) rfl ?_
      refine lv_if_eq (tgt := 24) hx hb dX2_waits_12 (by decide) (fun c12 => absurd c12 ((fun q => by rw [bI_z, g1] at q; cases q))) (fun c12 => ?_)
      refine lv_iload_n hx hb dX2_waits_15 rfl (lv_at hl 2 rfl) ?_
      refine lv_iconst (v := nI 0) hx hb dX2_waits_16 (by decide) ?_
      refine lv_iconst (v := nI 5) hx hb dX2_waits_17 (by decide) ?_
      refine kcallS (rest := []) F hA hI (mc_in l _ _ _ _) kgX2_57 hl.1 rfl rfl (Nat.le_of_ble_eq_true rfl) dX2_waits_18 ⟨Nat.le_of_ble_eq_true rfl, Nat.le_of_ble_eq_true rfl⟩ ⟨Nat.le_of_ble_eq_true rfl, Nat.le_of_ble_eq_true rfl⟩ (fun vq uq H locs hp hI => ?_)
      obtain ⟨rfl, hu⟩ := hp
      rw [hu] at hI
      clear hu
      refine kstk (b := .int _ :: []) rfl ?_
      refine lv_if_ne (tgt := 26) hx hb dX2_waits_21 (by decide) (fun c21 => ?_) (fun c21 => absurd c21 ((fun q => by rw [bI_z, g2] at q; cases q)))
      refine lv_aload_n hx hb dX2_waits_26 rfl (lv_at hl 0 rfl) ?_
      refine m_get F hI 5 (by decide) rfl flX2_17 dX2_waits_27 ?_
      refine lv_iload_n hx hb dX2_waits_30 rfl (lv_at hl 1 rfl) ?_
      refine m_ald F hI  2 (show n < 100 by omega) rfl dX2_waits_31 ?_
      refine lv_bipush (v := -9) hx hb dX2_waits_32 (by decide) ?_
      refine lv_icmp_ne (tgt := 40) hx hb dX2_waits_34 (by decide) (fun c34 => ?_) (fun c34 => absurd c34 (hk))
      refine lv_iload_n hx hb dX2_waits_40 rfl (lv_at hl 2 rfl) ?_
      refine lv_tableIn (off := 42) (tgt := 83) hx hb dX2_waits_41 (by decide) (by decide) (by decide) (by decide) ?_
      refine lv_aload_n hx hb dX2_waits_83 rfl (lv_at hl 0 rfl) ?_
      refine m_get F hI 6 (by decide) rfl flX2_20 dX2_waits_84 ?_
      refine lv_iload_n hx hb dX2_waits_87 rfl (lv_at hl 1 rfl) ?_
      refine m_ald F hI  3 (show n < 100 by omega) rfl dX2_waits_88 ?_
      exact kret_i F hI dX2_waits_89 (⟨by simp [m_waits, hk, m_wval], rfl⟩)
    · have hl := hl
      refine lv_aload_n hx hb dX2_waits_0 rfl (lv_at hl 0 rfl) ?_
      refine lv_iconst (v := nI 0) hx hb dX2_waits_1 (by decide) ?_
      refine m_putTh F hI flX2_53 dX2_waits_2 (fun H locs hI => ?_)
      refine lv_iload_n hx hb dX2_waits_5 rfl (lv_at hl 1 rfl) ?_
      refine lv_iconst (v := nI 0) hx hb dX2_waits_6 (by decide) ?_
      refine lv_bipush (v := nI 99) hx hb dX2_waits_7 (by decide) ?_
      refine kcallS (rest := []) F hA hI (mc_in l _ _ _ _) kgX2_57 hl.1 rfl rfl (Nat.le_of_ble_eq_true rfl) dX2_waits_9 ⟨Nat.le_of_ble_eq_true rfl, Nat.le_of_ble_eq_true rfl⟩ ⟨Nat.le_of_ble_eq_true rfl, Nat.le_of_ble_eq_true rfl⟩ (fun vq uq H locs hp hI => ?_)
      obtain ⟨rfl, hu⟩ := hp
      rw [hu] at hI
      clear hu
      refine kstk (b := .int _ :: []) rfl ?_
      refine lv_if_eq (tgt := 24) hx hb dX2_waits_12 (by decide) (fun c12 => absurd c12 ((fun q => by rw [bI_z, g1] at q; cases q))) (fun c12 => ?_)
      refine lv_iload_n hx hb dX2_waits_15 rfl (lv_at hl 2 rfl) ?_
      refine lv_iconst (v := nI 0) hx hb dX2_waits_16 (by decide) ?_
      refine lv_iconst (v := nI 5) hx hb dX2_waits_17 (by decide) ?_
      refine kcallS (rest := []) F hA hI (mc_in l _ _ _ _) kgX2_57 hl.1 rfl rfl (Nat.le_of_ble_eq_true rfl) dX2_waits_18 ⟨Nat.le_of_ble_eq_true rfl, Nat.le_of_ble_eq_true rfl⟩ ⟨Nat.le_of_ble_eq_true rfl, Nat.le_of_ble_eq_true rfl⟩ (fun vq uq H locs hp hI => ?_)
      obtain ⟨rfl, hu⟩ := hp
      rw [hu] at hI
      clear hu
      refine kstk (b := .int _ :: []) rfl ?_
      refine lv_if_ne (tgt := 26) hx hb dX2_waits_21 (by decide) (fun c21 => ?_) (fun c21 => absurd c21 ((fun q => by rw [bI_z, g2] at q; cases q)))
      refine lv_aload_n hx hb dX2_waits_26 rfl (lv_at hl 0 rfl) ?_
      refine m_get F hI 5 (by decide) rfl flX2_17 dX2_waits_27 ?_
      refine lv_iload_n hx hb dX2_waits_30 rfl (lv_at hl 1 rfl) ?_
      refine m_ald F hI  2 (show n < 100 by omega) rfl dX2_waits_31 ?_
      refine lv_bipush (v := -9) hx hb dX2_waits_32 (by decide) ?_
      refine lv_icmp_ne (tgt := 40) hx hb dX2_waits_34 (by decide) (fun c34 => ?_) (fun c34 => absurd c34 (hk))
      refine lv_iload_n hx hb dX2_waits_40 rfl (lv_at hl 2 rfl) ?_
      refine lv_tableIn (off := 49) (tgt := 90) hx hb dX2_waits_41 (by decide) (by decide) (by decide) (by decide) ?_
      refine lv_aload_n hx hb dX2_waits_90 rfl (lv_at hl 0 rfl) ?_
      refine m_get F hI 7 (by decide) rfl flX2_23 dX2_waits_91 ?_
      refine lv_iload_n hx hb dX2_waits_94 rfl (lv_at hl 1 rfl) ?_
      refine m_ald F hI  4 (show n < 100 by omega) rfl dX2_waits_95 ?_
      exact kret_i F hI dX2_waits_96 (⟨by simp [m_waits, hk, m_wval], rfl⟩)
    · have hl := hl
      refine lv_aload_n hx hb dX2_waits_0 rfl (lv_at hl 0 rfl) ?_
      refine lv_iconst (v := nI 0) hx hb dX2_waits_1 (by decide) ?_
      refine m_putTh F hI flX2_53 dX2_waits_2 (fun H locs hI => ?_)
      refine lv_iload_n hx hb dX2_waits_5 rfl (lv_at hl 1 rfl) ?_
      refine lv_iconst (v := nI 0) hx hb dX2_waits_6 (by decide) ?_
      refine lv_bipush (v := nI 99) hx hb dX2_waits_7 (by decide) ?_
      refine kcallS (rest := []) F hA hI (mc_in l _ _ _ _) kgX2_57 hl.1 rfl rfl (Nat.le_of_ble_eq_true rfl) dX2_waits_9 ⟨Nat.le_of_ble_eq_true rfl, Nat.le_of_ble_eq_true rfl⟩ ⟨Nat.le_of_ble_eq_true rfl, Nat.le_of_ble_eq_true rfl⟩ (fun vq uq H locs hp hI => ?_)
      obtain ⟨rfl, hu⟩ := hp
      rw [hu] at hI
      clear hu
      refine kstk (b := .int _ :: []) rfl ?_
      refine lv_if_eq (tgt := 24) hx hb dX2_waits_12 (by decide) (fun c12 => absurd c12 ((fun q => by rw [bI_z, g1] at q; cases q))) (fun c12 => ?_)
      refine lv_iload_n hx hb dX2_waits_15 rfl (lv_at hl 2 rfl) ?_
      refine lv_iconst (v := nI 0) hx hb dX2_waits_16 (by decide) ?_
      refine lv_iconst (v := nI 5) hx hb dX2_waits_17 (by decide) ?_
      refine kcallS (rest := []) F hA hI (mc_in l _ _ _ _) kgX2_57 hl.1 rfl rfl (Nat.le_of_ble_eq_true rfl) dX2_waits_18 ⟨Nat.le_of_ble_eq_true rfl, Nat.le_of_ble_eq_true rfl⟩ ⟨Nat.le_of_ble_eq_true rfl, Nat.le_of_ble_eq_true rfl⟩ (fun vq uq H locs hp hI => ?_)
      obtain ⟨rfl, hu⟩ := hp
      rw [hu] at hI
      clear hu
      refine kstk (b := .int _ :: []) rfl ?_
      refine lv_if_ne (tgt := 26) hx hb dX2_waits_21 (by decide) (fun c21 => ?_) (fun c21 => absurd c21 ((fun q => by rw [bI_z, g2] at q; cases q)))
      refine lv_aload_n hx hb dX2_waits_26 rfl (lv_at hl 0 rfl) ?_
      refine m_get F hI 5 (by decide) rfl flX2_17 dX2_waits_27 ?_
      refine lv_iload_n hx hb dX2_waits_30 rfl (lv_at hl 1 rfl) ?_
      refine m_ald F hI  2 (show n < 100 by omega) rfl dX2_waits_31 ?_
      refine lv_bipush (v := -9) hx hb dX2_waits_32 (by decide) ?_
      refine lv_icmp_ne (tgt := 40) hx hb dX2_waits_34 (by decide) (fun c34 => ?_) (fun c34 => absurd c34 (hk))
      refine lv_iload_n hx hb dX2_waits_40 rfl (lv_at hl 2 rfl) ?_
      refine lv_tableIn (off := 56) (tgt := 97) hx hb dX2_waits_41 (by decide) (by decide) (by decide) (by decide) ?_
      refine lv_aload_n hx hb dX2_waits_97 rfl (lv_at hl 0 rfl) ?_
      refine m_get F hI 8 (by decide) rfl flX2_26 dX2_waits_98 ?_
      refine lv_iload_n hx hb dX2_waits_101 rfl (lv_at hl 1 rfl) ?_
      refine m_ald F hI  5 (show n < 100 by omega) rfl dX2_waits_102 ?_
      exact kret_i F hI dX2_waits_103 (⟨by simp [m_waits, hk, m_wval], rfl⟩)
    · have hl := hl
      refine lv_aload_n hx hb dX2_waits_0 rfl (lv_at hl 0 rfl) ?_
      refine lv_iconst (v := nI 0) hx hb dX2_waits_1 (by decide) ?_
      refine m_putTh F hI flX2_53 dX2_waits_2 (fun H locs hI => ?_)
      refine lv_iload_n hx hb dX2_waits_5 rfl (lv_at hl 1 rfl) ?_
      refine lv_iconst (v := nI 0) hx hb dX2_waits_6 (by decide) ?_
      refine lv_bipush (v := nI 99) hx hb dX2_waits_7 (by decide) ?_
      refine kcallS (rest := []) F hA hI (mc_in l _ _ _ _) kgX2_57 hl.1 rfl rfl (Nat.le_of_ble_eq_true rfl) dX2_waits_9 ⟨Nat.le_of_ble_eq_true rfl, Nat.le_of_ble_eq_true rfl⟩ ⟨Nat.le_of_ble_eq_true rfl, Nat.le_of_ble_eq_true rfl⟩ (fun vq uq H locs hp hI => ?_)
      obtain ⟨rfl, hu⟩ := hp
      rw [hu] at hI
      clear hu
      refine kstk (b := .int _ :: []) rfl ?_
      refine lv_if_eq (tgt := 24) hx hb dX2_waits_12 (by decide) (fun c12 => absurd c12 ((fun q => by rw [bI_z, g1] at q; cases q))) (fun c12 => ?_)
      refine lv_iload_n hx hb dX2_waits_15 rfl (lv_at hl 2 rfl) ?_
      refine lv_iconst (v := nI 0) hx hb dX2_waits_16 (by decide) ?_
      refine lv_iconst (v := nI 5) hx hb dX2_waits_17 (by decide) ?_
      refine kcallS (rest := []) F hA hI (mc_in l _ _ _ _) kgX2_57 hl.1 rfl rfl (Nat.le_of_ble_eq_true rfl) dX2_waits_18 ⟨Nat.le_of_ble_eq_true rfl, Nat.le_of_ble_eq_true rfl⟩ ⟨Nat.le_of_ble_eq_true rfl, Nat.le_of_ble_eq_true rfl⟩ (fun vq uq H locs hp hI => ?_)
      obtain ⟨rfl, hu⟩ := hp
      rw [hu] at hI
      clear hu
      refine kstk (b := .int _ :: []) rfl ?_
      refine lv_if_ne (tgt := 26) hx hb dX2_waits_21 (by decide) (fun c21 => ?_) (fun c21 => absurd c21 ((fun q => by rw [bI_z, g2] at q; cases q)))
      refine lv_aload_n hx hb dX2_waits_26 rfl (lv_at hl 0 rfl) ?_
      refine m_get F hI 5 (by decide) rfl flX2_17 dX2_waits_27 ?_
      refine lv_iload_n hx hb dX2_waits_30 rfl (lv_at hl 1 rfl) ?_
      refine m_ald F hI  2 (show n < 100 by omega) rfl dX2_waits_31 ?_
      refine lv_bipush (v := -9) hx hb dX2_waits_32 (by decide) ?_
      refine lv_icmp_ne (tgt := 40) hx hb dX2_waits_34 (by decide) (fun c34 => ?_) (fun c34 => absurd c34 (hk))
      refine lv_iload_n hx hb dX2_waits_40 rfl (lv_at hl 2 rfl) ?_
      refine lv_tableIn (off := 63) (tgt := 104) hx hb dX2_waits_41 (by decide) (by decide) (by decide) (by decide) ?_
      refine lv_aload_n hx hb dX2_waits_104 rfl (lv_at hl 0 rfl) ?_
      refine m_get F hI 9 (by decide) rfl flX2_29 dX2_waits_105 ?_
      refine lv_iload_n hx hb dX2_waits_108 rfl (lv_at hl 1 rfl) ?_
      refine m_ald F hI  6 (show n < 100 by omega) rfl dX2_waits_109 ?_
      exact kret_i F hI dX2_waits_110 (⟨by simp [m_waits, hk, m_wval], rfl⟩)
    · have hl := hl
      refine lv_aload_n hx hb dX2_waits_0 rfl (lv_at hl 0 rfl) ?_
      refine lv_iconst (v := nI 0) hx hb dX2_waits_1 (by decide) ?_
      refine m_putTh F hI flX2_53 dX2_waits_2 (fun H locs hI => ?_)
      refine lv_iload_n hx hb dX2_waits_5 rfl (lv_at hl 1 rfl) ?_
      refine lv_iconst (v := nI 0) hx hb dX2_waits_6 (by decide) ?_
      refine lv_bipush (v := nI 99) hx hb dX2_waits_7 (by decide) ?_
      refine kcallS (rest := []) F hA hI (mc_in l _ _ _ _) kgX2_57 hl.1 rfl rfl (Nat.le_of_ble_eq_true rfl) dX2_waits_9 ⟨Nat.le_of_ble_eq_true rfl, Nat.le_of_ble_eq_true rfl⟩ ⟨Nat.le_of_ble_eq_true rfl, Nat.le_of_ble_eq_true rfl⟩ (fun vq uq H locs hp hI => ?_)
      obtain ⟨rfl, hu⟩ := hp
      rw [hu] at hI
      clear hu
      refine kstk (b := .int _ :: []) rfl ?_
      refine lv_if_eq (tgt := 24) hx hb dX2_waits_12 (by decide) (fun c12 => absurd c12 ((fun q => by rw [bI_z, g1] at q; cases q))) (fun c12 => ?_)
      refine lv_iload_n hx hb dX2_waits_15 rfl (lv_at hl 2 rfl) ?_
      refine lv_iconst (v := nI 0) hx hb dX2_waits_16 (by decide) ?_
      refine lv_iconst (v := nI 5) hx hb dX2_waits_17 (by decide) ?_
      refine kcallS (rest := []) F hA hI (mc_in l _ _ _ _) kgX2_57 hl.1 rfl rfl (Nat.le_of_ble_eq_true rfl) dX2_waits_18 ⟨Nat.le_of_ble_eq_true rfl, Nat.le_of_ble_eq_true rfl⟩ ⟨Nat.le_of_ble_eq_true rfl, Nat.le_of_ble_eq_true rfl⟩ (fun vq uq H locs hp hI => ?_)
      obtain ⟨rfl, hu⟩ := hp
      rw [hu] at hI
      clear hu
      refine kstk (b := .int _ :: []) rfl ?_
      refine lv_if_ne (tgt := 26) hx hb dX2_waits_21 (by decide) (fun c21 => ?_) (fun c21 => absurd c21 ((fun q => by rw [bI_z, g2] at q; cases q)))
      refine lv_aload_n hx hb dX2_waits_26 rfl (lv_at hl 0 rfl) ?_
      refine m_get F hI 5 (by decide) rfl flX2_17 dX2_waits_27 ?_
      refine lv_iload_n hx hb dX2_waits_30 rfl (lv_at hl 1 rfl) ?_
      refine m_ald F hI  2 (show n < 100 by omega) rfl dX2_waits_31 ?_
      refine lv_bipush (v := -9) hx hb dX2_waits_32 (by decide) ?_
      refine lv_icmp_ne (tgt := 40) hx hb dX2_waits_34 (by decide) (fun c34 => ?_) (fun c34 => absurd c34 (hk))
      refine lv_iload_n hx hb dX2_waits_40 rfl (lv_at hl 2 rfl) ?_
      refine lv_tableOut (tgt := 111) hx hb dX2_waits_41 (by decide) (by decide) ?_
      refine lv_aload_n hx hb dX2_waits_111 rfl (lv_at hl 0 rfl) ?_
      refine m_get F hI 1 (by decide) rfl flX2_79 dX2_waits_112 ?_
      refine lv_aload_n hx hb dX2_waits_115 rfl (lv_at hl 0 rfl) ?_
      refine m_get F hI 10 (by decide) rfl flX2_32 dX2_waits_116 ?_
      refine lv_iload_n hx hb dX2_waits_119 rfl (lv_at hl 1 rfl) ?_
      refine m_ald F hI  7 (show n < 100 by omega) rfl dX2_waits_120 ?_
      refine lv_isub hx hb dX2_waits_121 ?_
      exact kret_i F hI dX2_waits_122 (⟨by simp [m_waits, hk, m_wval], rfl⟩)
theorem mc_rem_bad (st : MS) (x : Int32) (h : inR x (nI 0) (nI 99) = false) : kM l yX2_remembered cX2_remembered 2 (some .int) 1 22 0 0 D (mty K) (mw g K) [.ref (g 0), .int x] st (fun v u => v = some (.int (-1)) ∧ u = st) := by
  refine kM_intro (by decide) (Nat.le_of_ble_eq_true rfl) ?_
  intro p e s m below meth c A ls F hA hI hl
  obtain ⟨hx, hb, hr, hml, hown, hts, hlk, hK, hnm⟩ := id F
  have hl : lv_has ls 2 [(0, .ref (g 0)), (1, .int x)] := hl
  refine lv_aload_n hx hb dX2_remembered_0 rfl (lv_at hl 0 rfl) ?_
  refine lv_iconst (v := nI 0) hx hb dX2_remembered_1 (by decide) ?_
  refine m_putTh F hI flX2_53 dX2_remembered_2 (fun H locs hI => ?_)
  refine lv_iload_n hx hb dX2_remembered_5 rfl (lv_at hl 1 rfl) ?_
  refine lv_iconst (v := nI 0) hx hb dX2_remembered_6 (by decide) ?_
  refine lv_bipush (v := nI 99) hx hb dX2_remembered_7 (by decide) ?_
  refine kcallS (rest := []) F hA hI (mc_in l _ _ _ _) kgX2_57 hl.1 rfl rfl (Nat.le_of_ble_eq_true rfl) dX2_remembered_9 ⟨Nat.le_of_ble_eq_true rfl, Nat.le_of_ble_eq_true rfl⟩ ⟨Nat.le_of_ble_eq_true rfl, Nat.le_of_ble_eq_true rfl⟩ (fun vq uq H locs hp hI => ?_)
  obtain ⟨rfl, hu⟩ := hp
  rw [hu] at hI
  clear hu
  refine kstk (b := .int _ :: []) rfl ?_
  refine lv_if_ne (tgt := 17) hx hb dX2_remembered_12 (by decide) (fun c12 => absurd c12 ((fun q => q (bI_z.mpr h)))) (fun c12 => ?_)
  refine lv_iconst (v := -1) hx hb dX2_remembered_15 (by decide) ?_
  exact kret_i F hI dX2_remembered_16 (⟨rfl, rfl⟩)
theorem mc_rem (st : MS) (n : Nat) (hn : n < 100) (hkm : st.2.2.2 ≤ 20) : kM l yX2_remembered cX2_remembered 2 (some .int) 1 22 0 0 D (mty K) (mw g K) [.ref (g 0), .int (nI n)] st (fun v u => v = some (.int (m_rem st n)) ∧ u = st) := by
  refine kM_intro (by decide) (Nat.le_of_ble_eq_true rfl) ?_
  intro p e s m below meth c A ls F hA hI hl
  obtain ⟨hx, hb, hr, hml, hown, hts, hlk, hK, hnm⟩ := id F
  have hl : lv_has ls 2 [(0, .ref (g 0)), (1, .int (nI n))] := hl
  have g1 : inR (nI n) (nI 0) (nI 99) = true := inR_in (by decide) (by omega) (by omega)
  refine lv_aload_n hx hb dX2_remembered_0 rfl (lv_at hl 0 rfl) ?_
  refine lv_iconst (v := nI 0) hx hb dX2_remembered_1 (by decide) ?_
  refine m_putTh F hI flX2_53 dX2_remembered_2 (fun H locs hI => ?_)
  refine lv_iload_n hx hb dX2_remembered_5 rfl (lv_at hl 1 rfl) ?_
  refine lv_iconst (v := nI 0) hx hb dX2_remembered_6 (by decide) ?_
  refine lv_bipush (v := nI 99) hx hb dX2_remembered_7 (by decide) ?_
  refine kcallS (rest := []) F hA hI (mc_in l _ _ _ _) kgX2_57 hl.1 rfl rfl (Nat.le_of_ble_eq_true rfl) dX2_remembered_9 ⟨Nat.le_of_ble_eq_true rfl, Nat.le_of_ble_eq_true rfl⟩ ⟨Nat.le_of_ble_eq_true rfl, Nat.le_of_ble_eq_true rfl⟩ (fun vq uq H locs hp hI => ?_)
  obtain ⟨rfl, hu⟩ := hp
  rw [hu] at hI
  clear hu
  refine kstk (b := .int _ :: []) rfl ?_
  refine lv_if_ne (tgt := 17) hx hb dX2_remembered_12 (by decide) (fun c12 => ?_) (fun c12 => absurd c12 ((fun q => by rw [bI_z, g1] at q; cases q)))
  refine lv_aload_n hx hb dX2_remembered_17 rfl (lv_at hl 0 rfl) ?_
  refine lv_iload_n hx hb dX2_remembered_18 rfl (lv_at hl 1 rfl) ?_
  refine kcallV (rest := []) F hA hI (mc_known l _ n hn) kgX2_93 (m_rec F hI) hl.1 rfl rfl (Nat.le_of_ble_eq_true rfl) dX2_remembered_19 ⟨Nat.le_of_ble_eq_true rfl, Nat.le_of_ble_eq_true rfl⟩ ⟨Nat.le_of_ble_eq_true rfl, Nat.le_of_ble_eq_true rfl⟩ (fun vq uq H locs hp hI => ?_)
  obtain ⟨rfl, hu⟩ := hp
  rw [hu] at hI
  clear hu
  refine kstk (b := .int _ :: []) rfl ?_
  refine lv_if_ne (tgt := 30) hx hb dX2_remembered_22 (by decide) (fun c22 => ?_) (fun c22 => ?_)
  ·
    simp only [bI_z] at c22
    refine lv_aload_n hx hb dX2_remembered_30 rfl (lv_at hl 0 rfl) ?_
    refine lv_iload_n hx hb dX2_remembered_31 rfl (lv_at hl 1 rfl) ?_
    refine kcallV (rest := []) F hA hI (mc_keptAt l _ n hn hkm) kgX2_97 (m_rec F hI) hl.1 rfl rfl (Nat.le_of_ble_eq_true rfl) dX2_remembered_32 ⟨Nat.le_of_ble_eq_true rfl, Nat.le_of_ble_eq_true rfl⟩ ⟨Nat.le_of_ble_eq_true rfl, Nat.le_of_ble_eq_true rfl⟩ (fun vq uq H locs hp hI => ?_)
    obtain ⟨rfl, hu⟩ := hp
    rw [hu] at hI
    clear hu
    refine kstk (b := .int _ :: []) rfl ?_
    refine lv_bipush (v := -9) hx hb dX2_remembered_35 (by decide) ?_
    refine lv_icmp_ne (tgt := 44) hx hb dX2_remembered_37 (by decide) (fun c37 => ?_) (fun c37 => ?_)
    ·
      refine lv_iconst (v := nI 1) hx hb dX2_remembered_44 (by decide) ?_
      exact kret_i F hI dX2_remembered_45 (⟨by simp [m_rem, c22, c37], rfl⟩)
    ·
      refine lv_iconst (v := nI 0) hx hb dX2_remembered_40 (by decide) ?_
      refine lv_goto (tgt := 45) hx hb dX2_remembered_41 (by decide) ?_
      exact kret_i F hI dX2_remembered_45 (⟨by simp [m_rem, c22, c37], rfl⟩)
  ·
    simp only [bI_z] at c22
    refine lv_bipush (v := -9) hx hb dX2_remembered_25 (by decide) ?_
    refine lv_goto (tgt := 45) hx hb dX2_remembered_27 (by decide) ?_
    exact kret_i F hI dX2_remembered_45 (⟨by simp [m_rem, c22], rfl⟩)
theorem mc_kept_bad (st : MS) (x w : Int32) (h : inR x (nI 0) (nI st.2.2.2 - nI 1) = false ∨ inR w (nI 0) (nI 6) = false) : kM l yX2_kept cX2_kept 3 (some .int) 1 22 0 0 D (mty K) (mw g K) [.ref (g 0), .int x, .int w] st (fun v u => v = some (.int (-1)) ∧ u = st) := by
  refine kM_intro (by decide) (Nat.le_of_ble_eq_true rfl) ?_
  intro p e s m below meth c A ls F hA hI hl
  obtain ⟨hx, hb, hr, hml, hown, hts, hlk, hK, hnm⟩ := id F
  have hl : lv_has ls 3 [(0, .ref (g 0)), (1, .int x), (2, .int w)] := hl
  refine lv_aload_n hx hb dX2_kept_0 rfl (lv_at hl 0 rfl) ?_
  refine lv_iconst (v := nI 0) hx hb dX2_kept_1 (by decide) ?_
  refine m_putTh F hI flX2_53 dX2_kept_2 (fun H locs hI => ?_)
  refine lv_iload_n hx hb dX2_kept_5 rfl (lv_at hl 1 rfl) ?_
  refine lv_iconst (v := nI 0) hx hb dX2_kept_6 (by decide) ?_
  refine lv_aload_n hx hb dX2_kept_7 rfl (lv_at hl 0 rfl) ?_
  refine m_get F hI 14 (by decide) rfl flX2_82 dX2_kept_8 ?_
  refine ktop (y := nI (st.2.2.2)) rfl ?_
  refine lv_iconst (v := nI 1) hx hb dX2_kept_11 (by decide) ?_
  refine lv_isub hx hb dX2_kept_12 ?_
  refine kcallS (rest := []) F hA hI (mc_in l _ _ _ _) kgX2_57 hl.1 rfl rfl (Nat.le_of_ble_eq_true rfl) dX2_kept_13 ⟨Nat.le_of_ble_eq_true rfl, Nat.le_of_ble_eq_true rfl⟩ ⟨Nat.le_of_ble_eq_true rfl, Nat.le_of_ble_eq_true rfl⟩ (fun vq uq H locs hp hI => ?_)
  obtain ⟨rfl, hu⟩ := hp
  rw [hu] at hI
  clear hu
  refine kstk (b := .int _ :: []) rfl ?_
  refine lv_if_eq (tgt := 43) hx hb dX2_kept_16 (by decide) (fun c16 => ?_) (fun c16 => ?_)
  ·
    rw [bI_z] at c16
    refine lv_iconst (v := -1) hx hb dX2_kept_43 (by decide) ?_
    exact kret_i F hI dX2_kept_44 (⟨rfl, rfl⟩)
  ·
    rw [bI_z] at c16
    refine lv_iload_n hx hb dX2_kept_19 rfl (lv_at hl 2 rfl) ?_
    refine lv_iconst (v := nI 0) hx hb dX2_kept_20 (by decide) ?_
    refine lv_bipush (v := nI 6) hx hb dX2_kept_21 (by decide) ?_
    refine kcallS (rest := []) F hA hI (mc_in l _ _ _ _) kgX2_57 hl.1 rfl rfl (Nat.le_of_ble_eq_true rfl) dX2_kept_23 ⟨Nat.le_of_ble_eq_true rfl, Nat.le_of_ble_eq_true rfl⟩ ⟨Nat.le_of_ble_eq_true rfl, Nat.le_of_ble_eq_true rfl⟩ (fun vq uq H locs hp hI => ?_)
    obtain ⟨rfl, hu⟩ := hp
    rw [hu] at hI
    clear hu
    refine kstk (b := .int _ :: []) rfl ?_
    refine lv_if_eq (tgt := 43) hx hb dX2_kept_26 (by decide) (fun c26 => ?_) (fun c26 => absurd c26 ((fun q => q (bI_z.mpr (h.resolve_left c16)))))
    refine lv_iconst (v := -1) hx hb dX2_kept_43 (by decide) ?_
    exact kret_i F hI dX2_kept_44 (⟨rfl, rfl⟩)
theorem mc_kept (st : MS) (i w : Nat) (hi : i < st.2.2.2) (hkm : st.2.2.2 ≤ 20) (hw : w < 7) : kM l yX2_kept cX2_kept 3 (some .int) 1 22 0 0 D (mty K) (mw g K) [.ref (g 0), .int (nI i), .int (nI w)] st (fun v u => v = some (.int (st.1 10 (8 * i + w))) ∧ u = st) := by
  refine kM_intro (by decide) (Nat.le_of_ble_eq_true rfl) ?_
  intro p e s m below meth c A ls F hA hI hl
  obtain ⟨hx, hb, hr, hml, hown, hts, hlk, hK, hnm⟩ := id F
  have hl : lv_has ls 3 [(0, .ref (g 0)), (1, .int (nI i)), (2, .int (nI w))] := hl
  have g1 : inR (nI i) (nI 0) (nI st.2.2.2 - nI 1) = true := (kmR hkm).mpr ⟨i, hi, rfl⟩
  have g2 : inR (nI w) (nI 0) (nI 6) = true := inR_in (by decide) (by omega) (by omega)
  refine lv_aload_n hx hb dX2_kept_0 rfl (lv_at hl 0 rfl) ?_
  refine lv_iconst (v := nI 0) hx hb dX2_kept_1 (by decide) ?_
  refine m_putTh F hI flX2_53 dX2_kept_2 (fun H locs hI => ?_)
  refine lv_iload_n hx hb dX2_kept_5 rfl (lv_at hl 1 rfl) ?_
  refine lv_iconst (v := nI 0) hx hb dX2_kept_6 (by decide) ?_
  refine lv_aload_n hx hb dX2_kept_7 rfl (lv_at hl 0 rfl) ?_
  refine m_get F hI 14 (by decide) rfl flX2_82 dX2_kept_8 ?_
  refine ktop (y := nI (st.2.2.2)) rfl ?_
  refine lv_iconst (v := nI 1) hx hb dX2_kept_11 (by decide) ?_
  refine lv_isub hx hb dX2_kept_12 ?_
  refine kcallS (rest := []) F hA hI (mc_in l _ _ _ _) kgX2_57 hl.1 rfl rfl (Nat.le_of_ble_eq_true rfl) dX2_kept_13 ⟨Nat.le_of_ble_eq_true rfl, Nat.le_of_ble_eq_true rfl⟩ ⟨Nat.le_of_ble_eq_true rfl, Nat.le_of_ble_eq_true rfl⟩ (fun vq uq H locs hp hI => ?_)
  obtain ⟨rfl, hu⟩ := hp
  rw [hu] at hI
  clear hu
  refine kstk (b := .int _ :: []) rfl ?_
  refine lv_if_eq (tgt := 43) hx hb dX2_kept_16 (by decide) (fun c16 => absurd c16 ((fun q => by rw [bI_z, g1] at q; cases q))) (fun c16 => ?_)
  refine lv_iload_n hx hb dX2_kept_19 rfl (lv_at hl 2 rfl) ?_
  refine lv_iconst (v := nI 0) hx hb dX2_kept_20 (by decide) ?_
  refine lv_bipush (v := nI 6) hx hb dX2_kept_21 (by decide) ?_
  refine kcallS (rest := []) F hA hI (mc_in l _ _ _ _) kgX2_57 hl.1 rfl rfl (Nat.le_of_ble_eq_true rfl) dX2_kept_23 ⟨Nat.le_of_ble_eq_true rfl, Nat.le_of_ble_eq_true rfl⟩ ⟨Nat.le_of_ble_eq_true rfl, Nat.le_of_ble_eq_true rfl⟩ (fun vq uq H locs hp hI => ?_)
  obtain ⟨rfl, hu⟩ := hp
  rw [hu] at hI
  clear hu
  refine kstk (b := .int _ :: []) rfl ?_
  refine lv_if_eq (tgt := 43) hx hb dX2_kept_26 (by decide) (fun c26 => absurd c26 ((fun q => by rw [bI_z, g2] at q; cases q))) (fun c26 => ?_)
  refine lv_aload_n hx hb dX2_kept_29 rfl (lv_at hl 0 rfl) ?_
  refine m_get F hI 13 (by decide) rfl flX2_41 dX2_kept_30 ?_
  refine lv_bipush (v := nI 8) hx hb dX2_kept_33 (by decide) ?_
  refine lv_iload_n hx hb dX2_kept_35 rfl (lv_at hl 1 rfl) ?_
  refine lv_imul hx hb dX2_kept_36 ?_
  refine ktop (y := nI (8 * i)) (pk_mul _ _) ?_
  refine lv_iload_n hx hb dX2_kept_37 rfl (lv_at hl 2 rfl) ?_
  refine lv_iadd hx hb dX2_kept_38 ?_
  refine ktop (y := nI ((8 * i) + w)) (nI_add _ _) ?_
  refine m_ald F hI  10 (show ((8 * i) + w) < 160 by omega) rfl dX2_kept_39 ?_
  refine lv_goto (tgt := 44) hx hb dX2_kept_40 (by decide) ?_
  exact kret_i F hI dX2_kept_44 (⟨rfl, rfl⟩)
theorem mc_take_bad (st : MS) (x : Int32) (h : inR x (nI 0) (nI st.2.2.2 - nI 1) = false) : kM l yX2_take cX2_take 6 (some .int) 1 22 0 0 D (mty K) (mw g K) [.ref (g 0), .int x] st (fun v u => v = some (.int (-1)) ∧ u = st) := by
  refine kM_intro (by decide) (Nat.le_of_ble_eq_true rfl) ?_
  intro p e s m below meth c A ls F hA hI hl
  obtain ⟨hx, hb, hr, hml, hown, hts, hlk, hK, hnm⟩ := id F
  have hl : lv_has ls 6 [(0, .ref (g 0)), (1, .int x)] := hl
  refine lv_aload_n hx hb dX2_take_0 rfl (lv_at hl 0 rfl) ?_
  refine lv_iconst (v := nI 0) hx hb dX2_take_1 (by decide) ?_
  refine m_putTh F hI flX2_53 dX2_take_2 (fun H locs hI => ?_)
  refine lv_iload_n hx hb dX2_take_5 rfl (lv_at hl 1 rfl) ?_
  refine lv_iconst (v := nI 0) hx hb dX2_take_6 (by decide) ?_
  refine lv_aload_n hx hb dX2_take_7 rfl (lv_at hl 0 rfl) ?_
  refine m_get F hI 14 (by decide) rfl flX2_82 dX2_take_8 ?_
  refine ktop (y := nI (st.2.2.2)) rfl ?_
  refine lv_iconst (v := nI 1) hx hb dX2_take_11 (by decide) ?_
  refine lv_isub hx hb dX2_take_12 ?_
  refine kcallS (rest := []) F hA hI (mc_in l _ _ _ _) kgX2_57 hl.1 rfl rfl (Nat.le_of_ble_eq_true rfl) dX2_take_13 ⟨Nat.le_of_ble_eq_true rfl, Nat.le_of_ble_eq_true rfl⟩ ⟨Nat.le_of_ble_eq_true rfl, Nat.le_of_ble_eq_true rfl⟩ (fun vq uq H locs hp hI => ?_)
  obtain ⟨rfl, hu⟩ := hp
  rw [hu] at hI
  clear hu
  refine kstk (b := .int _ :: []) rfl ?_
  refine lv_if_ne (tgt := 21) hx hb dX2_take_16 (by decide) (fun c16 => absurd c16 ((fun q => q (bI_z.mpr h)))) (fun c16 => ?_)
  refine lv_iconst (v := -1) hx hb dX2_take_19 (by decide) ?_
  exact kret_i F hI dX2_take_20 (⟨rfl, rfl⟩)
theorem mc_take (st : MS) (i n sh : Nat) (hi : i < st.2.2.2) (hkm : st.2.2.2 ≤ 20) (hn : n < 100) (hs : sh < 5) (h0 : st.1 10 (8 * i) = nI n) (h2 : st.1 10 (8 * i + 2) = nI sh) : kM l yX2_take cX2_take 6 (some .int) 1 22 0 0 D (mty K) (mw g K) [.ref (g 0), .int (nI i)] st (fun v u => v = some (.int (nI n)) ∧ u = m_take st i n sh) := by
  refine kM_intro (by decide) (Nat.le_of_ble_eq_true rfl) ?_
  intro p e s m below meth c A ls F hA hI hl
  obtain ⟨hx, hb, hr, hml, hown, hts, hlk, hK, hnm⟩ := id F
  have hl : lv_has ls 6 [(0, .ref (g 0)), (1, .int (nI i))] := hl
  have g1 : inR (nI i) (nI 0) (nI st.2.2.2 - nI 1) = true := (kmR hkm).mpr ⟨i, hi, rfl⟩
  have h116 : ∀ (u : MS) (H : Heap) (locs : List Loc) (ls : Array Slot), kI D (mw g K) A s.heap u H locs → u = m_tk8 (m_takeA st sh (st.1 10 (8 * i + 4))) i n → lv_has ls 6 [(2, .int (nI n)), (0, .ref (g 0)), (1, .int (nI i))] → W p l e { frames := 1, cells := 0, slots := 0, locals := 22 } s m #[.ref (g 0), .int (nI i)] below meth c H locs 0 0 (MQ below (kQ D (mty K) (mw g K) (fun v u => v = some (.int (nI n)) ∧ u = m_take st i n sh) A) #[.ref (g 0), .int (nI i)] s 0 0 A) (F0 m 116 ls []) := by
    intro u H locs ls hI hu hl
    have huk : u.2.2.2 = st.2.2.2 := by rw [hu]; unfold m_tk8; split <;> rfl
    refine lv_bipush (v := nI 8) hx hb dX2_take_116 (by decide) ?_
    refine lv_iload_n hx hb dX2_take_118 rfl (lv_at hl 2 rfl) ?_
    refine lv_imul hx hb dX2_take_119 ?_
    refine ktop (y := nI (8 * i)) (pk_mul _ _) ?_
    refine lv_istore (lv' := [(5, .int _), (2, .int _), (0, .ref _), (1, .int _)]) hx hb dX2_take_120 hl (by decide) rfl (fun ls hl => ?_)
    refine wloop (σ := Nat × Nat × MS) (fun x => x.1) (fun x H locs ls => x.2.1 + x.1 = 8 * st.2.2.2 - 8 ∧ 8 * i ≤ x.2.1 ∧ x.2.2.2.2.2 = st.2.2.2 ∧ mkm (m_shift x.1 x.2.1 x.2.2) (st.2.2.2 - 1) = m_take st i n sh ∧ kI D (mw g K) A s.heap x.2.2 H locs ∧ lv_has ls 6 [(5, .int (nI x.2.1)), (2, .int (nI n)), (0, .ref (g 0)), (1, .int (nI i))]) ?_ (8 * st.2.2.2 - 8 - 8 * i, 8 * i, u) _ _ _ ⟨by show 8 * i + (8 * st.2.2.2 - 8 - 8 * i) = _; omega, Nat.le_refl _, huk, by rw [m_take, ← hu], hI, lv_sub hl [0, 1, 2, 3] rfl⟩
    rintro ⟨f, k, u2⟩ H locs ls ⟨hk, hk2, huk2, he, hI, hl⟩ ih
    dsimp only at hk hk2 huk2 he hI hl ih
    refine lv_iload hx hb dX2_take_122 (lv_at hl 0 rfl) ?_
    refine lv_bipush (v := nI 8) hx hb dX2_take_124 (by decide) ?_
    refine lv_aload_n hx hb dX2_take_126 rfl (lv_at hl 2 rfl) ?_
    refine m_get F hI 14 (by decide) rfl flX2_82 dX2_take_127 ?_
    refine ktop (y := nI (u2.2.2.2)) rfl ?_
    refine ktop (y := nI (st.2.2.2)) (by rw [huk2]) ?_
    refine lv_imul hx hb dX2_take_130 ?_
    refine ktop (y := nI (8 * (st.2.2.2))) (pk_mul _ _) ?_
    refine lv_bipush (v := nI 8) hx hb dX2_take_131 (by decide) ?_
    refine lv_isub hx hb dX2_take_133 ?_
    refine ktop (y := nI (8 * st.2.2.2 - 8)) (by exact pk_sub (by omega)) ?_
    refine lv_icmp_ge (tgt := 160) hx hb dX2_take_134 (by decide) (fun c134 => ?_) (fun c134 => ?_)
    ·
      rw [nI_leI (by omega) (by omega)] at c134
      obtain rfl : f = 0 := by omega
      refine lv_aload_n hx hb dX2_take_160 rfl (lv_at hl 2 rfl) ?_
      refine lv_dup hx hb dX2_take_161 rfl ?_
      refine m_get F hI 14 (by decide) rfl flX2_82 dX2_take_162 ?_
      refine ktop (y := nI (u2.2.2.2)) rfl ?_
      refine ktop (y := nI (st.2.2.2)) (by rw [huk2]) ?_
      refine lv_iconst (v := nI 1) hx hb dX2_take_165 (by decide) ?_
      refine lv_isub hx hb dX2_take_166 ?_
      refine ktop (y := nI (st.2.2.2 - 1)) (by exact pk_sub (by omega)) ?_
      refine m_putKm F hI flX2_82 dX2_take_167 (fun H locs hI => ?_)
      refine lv_iload_n hx hb dX2_take_170 rfl (lv_at hl 1 rfl) ?_
      exact kret_i F hI dX2_take_171 (⟨rfl, he⟩)
    ·
      rw [nI_leI (by omega) (by omega)] at c134
      obtain ⟨f, rfl⟩ : ∃ f', f = f' + 1 := ⟨f - 1, by omega⟩
      refine lv_aload_n hx hb dX2_take_137 rfl (lv_at hl 2 rfl) ?_
      refine m_get F hI 13 (by decide) rfl flX2_41 dX2_take_138 ?_
      refine lv_iload hx hb dX2_take_141 (lv_at hl 0 rfl) ?_
      refine lv_aload_n hx hb dX2_take_143 rfl (lv_at hl 2 rfl) ?_
      refine m_get F hI 13 (by decide) rfl flX2_41 dX2_take_144 ?_
      refine lv_iload hx hb dX2_take_147 (lv_at hl 0 rfl) ?_
      refine lv_bipush (v := nI 8) hx hb dX2_take_149 (by decide) ?_
      refine lv_iadd hx hb dX2_take_151 ?_
      refine ktop (y := nI (k + 8)) (nI_add _ _) ?_
      refine m_ald F hI  10 (show (k + 8) < 160 by omega) rfl dX2_take_152 ?_
      refine m_ast F hI 10 (show k < 160 by omega) rfl dX2_take_153 (fun H locs hI => ?_)
      have hI : kI D _ A s.heap (mcp u2 10 k 10 (k + 8)) H locs := hI
      generalize hS153 : mcp u2 10 k 10 (k + 8) = S153 at hI
      refine lv_iinc (v := nI (k + 1)) (lv' := [(5, .int _), (2, .int _), (0, .ref _), (1, .int _)]) hx hb dX2_take_154 hl (k := 0) rfl (kinc _ 1) (by decide) rfl (fun ls hl => ?_)
      refine lv_goto (tgt := 122) hx hb dX2_take_157 (by decide) ?_
      exact ih (f, k + 1, S153) _ _ _ (by show f < f + 1; omega) ⟨by show k + 1 + f = _; omega, by show 8 * i ≤ k + 1; omega, by rw [← hS153]; exact huk2, by rw [← he, ← hS153]; rfl, hI, lv_sub hl [0, 1, 2, 3] rfl⟩
  refine lv_aload_n hx hb dX2_take_0 rfl (lv_at hl 0 rfl) ?_
  refine lv_iconst (v := nI 0) hx hb dX2_take_1 (by decide) ?_
  refine m_putTh F hI flX2_53 dX2_take_2 (fun H locs hI => ?_)
  refine lv_iload_n hx hb dX2_take_5 rfl (lv_at hl 1 rfl) ?_
  refine lv_iconst (v := nI 0) hx hb dX2_take_6 (by decide) ?_
  refine lv_aload_n hx hb dX2_take_7 rfl (lv_at hl 0 rfl) ?_
  refine m_get F hI 14 (by decide) rfl flX2_82 dX2_take_8 ?_
  refine ktop (y := nI (st.2.2.2)) rfl ?_
  refine lv_iconst (v := nI 1) hx hb dX2_take_11 (by decide) ?_
  refine lv_isub hx hb dX2_take_12 ?_
  refine kcallS (rest := []) F hA hI (mc_in l _ _ _ _) kgX2_57 hl.1 rfl rfl (Nat.le_of_ble_eq_true rfl) dX2_take_13 ⟨Nat.le_of_ble_eq_true rfl, Nat.le_of_ble_eq_true rfl⟩ ⟨Nat.le_of_ble_eq_true rfl, Nat.le_of_ble_eq_true rfl⟩ (fun vq uq H locs hp hI => ?_)
  obtain ⟨rfl, hu⟩ := hp
  rw [hu] at hI
  clear hu
  refine kstk (b := .int _ :: []) rfl ?_
  refine lv_if_ne (tgt := 21) hx hb dX2_take_16 (by decide) (fun c16 => ?_) (fun c16 => absurd c16 ((fun q => by rw [bI_z, g1] at q; cases q)))
  refine lv_aload_n hx hb dX2_take_21 rfl (lv_at hl 0 rfl) ?_
  refine m_get F hI 13 (by decide) rfl flX2_41 dX2_take_22 ?_
  refine lv_bipush (v := nI 8) hx hb dX2_take_25 (by decide) ?_
  refine lv_iload_n hx hb dX2_take_27 rfl (lv_at hl 1 rfl) ?_
  refine lv_imul hx hb dX2_take_28 ?_
  refine ktop (y := nI (8 * i)) (pk_mul _ _) ?_
  refine m_ald F hI  10 (show (8 * i) < 160 by omega) rfl dX2_take_29 ?_
  refine ktop (y := nI (n)) (by exact h0) ?_
  refine lv_istore_n (lv' := [(2, .int _), (0, .ref _), (1, .int _)]) hx hb dX2_take_30 rfl hl (by decide) rfl (fun ls hl => ?_)
  refine lv_aload_n hx hb dX2_take_31 rfl (lv_at hl 1 rfl) ?_
  refine m_get F hI 13 (by decide) rfl flX2_41 dX2_take_32 ?_
  refine lv_bipush (v := nI 8) hx hb dX2_take_35 (by decide) ?_
  refine lv_iload_n hx hb dX2_take_37 rfl (lv_at hl 2 rfl) ?_
  refine lv_imul hx hb dX2_take_38 ?_
  refine ktop (y := nI (8 * i)) (pk_mul _ _) ?_
  refine lv_iconst (v := nI 2) hx hb dX2_take_39 (by decide) ?_
  refine lv_iadd hx hb dX2_take_40 ?_
  refine ktop (y := nI ((8 * i) + 2)) (nI_add _ _) ?_
  refine m_ald F hI  10 (show ((8 * i) + 2) < 160 by omega) rfl dX2_take_41 ?_
  refine ktop (y := nI (sh)) (by exact h2) ?_
  refine lv_istore_n (lv' := [(3, .int _), (2, .int _), (0, .ref _), (1, .int _)]) hx hb dX2_take_42 rfl hl (by decide) rfl (fun ls hl => ?_)
  refine lv_aload_n hx hb dX2_take_43 rfl (lv_at hl 2 rfl) ?_
  refine m_get F hI 13 (by decide) rfl flX2_41 dX2_take_44 ?_
  refine lv_bipush (v := nI 8) hx hb dX2_take_47 (by decide) ?_
  refine lv_iload_n hx hb dX2_take_49 rfl (lv_at hl 3 rfl) ?_
  refine lv_imul hx hb dX2_take_50 ?_
  refine ktop (y := nI (8 * i)) (pk_mul _ _) ?_
  refine lv_iconst (v := nI 4) hx hb dX2_take_51 (by decide) ?_
  refine lv_iadd hx hb dX2_take_52 ?_
  refine ktop (y := nI ((8 * i) + 4)) (nI_add _ _) ?_
  refine m_ald F hI  10 (show ((8 * i) + 4) < 160 by omega) rfl dX2_take_53 ?_
  refine lv_istore (lv' := [(4, .int _), (3, .int _), (2, .int _), (0, .ref _), (1, .int _)]) hx hb dX2_take_54 hl (by decide) rfl (fun ls hl => ?_)
  refine lv_aload_n hx hb dX2_take_56 rfl (lv_at hl 3 rfl) ?_
  refine m_get F hI 15 (by decide) rfl flX2_44 dX2_take_57 ?_
  refine lv_bipush (v := nI 7) hx hb dX2_take_60 (by decide) ?_
  refine lv_iload_n hx hb dX2_take_62 rfl (lv_at hl 1 rfl) ?_
  refine lv_imul hx hb dX2_take_63 ?_
  refine ktop (y := nI (7 * (sh))) (pk_mul _ _) ?_
  refine lv_iconst (v := nI 1) hx hb dX2_take_64 (by decide) ?_
  refine lv_iadd hx hb dX2_take_65 ?_
  refine ktop (y := nI ((7 * (sh)) + 1)) (nI_add _ _) ?_
  refine lv_dup2_11 hx hb dX2_take_66 rfl rfl ?_
  refine m_ald F hI  11 (show ((7 * (sh)) + 1) < 35 by omega) rfl dX2_take_67 ?_
  refine lv_iload hx hb dX2_take_68 (lv_at hl 0 rfl) ?_
  refine lv_isub hx hb dX2_take_70 ?_
  refine m_ast F hI 11 (show ((7 * (sh)) + 1) < 35 by omega) rfl dX2_take_71 (fun H locs hI => ?_)
  have hI : kI D _ A s.heap (mset st 11 (7 * sh + 1) (st.1 11 (7 * sh + 1) - st.1 10 (8 * i + 4))) H locs := hI
  generalize hS71 : mset st 11 (7 * sh + 1) (st.1 11 (7 * sh + 1) - st.1 10 (8 * i + 4)) = S71 at hI
  refine lv_aload_n hx hb dX2_take_72 rfl (lv_at hl 3 rfl) ?_
  refine m_get F hI 15 (by decide) rfl flX2_44 dX2_take_73 ?_
  refine lv_bipush (v := nI 7) hx hb dX2_take_76 (by decide) ?_
  refine lv_iload_n hx hb dX2_take_78 rfl (lv_at hl 1 rfl) ?_
  refine lv_imul hx hb dX2_take_79 ?_
  refine ktop (y := nI (7 * (sh))) (pk_mul _ _) ?_
  refine lv_iconst (v := nI 2) hx hb dX2_take_80 (by decide) ?_
  refine lv_iadd hx hb dX2_take_81 ?_
  refine ktop (y := nI ((7 * (sh)) + 2)) (nI_add _ _) ?_
  refine lv_dup2_11 hx hb dX2_take_82 rfl rfl ?_
  refine m_ald F hI  11 (show ((7 * (sh)) + 2) < 35 by omega) rfl dX2_take_83 ?_
  refine lv_iload hx hb dX2_take_84 (lv_at hl 0 rfl) ?_
  refine lv_iadd hx hb dX2_take_86 ?_
  refine m_ast F hI 11 (show ((7 * (sh)) + 2) < 35 by omega) rfl dX2_take_87 (fun H locs hI => ?_)
  have hI : kI D _ A s.heap (madd S71 11 (7 * sh + 2) (st.1 10 (8 * i + 4))) H locs := hI
  generalize hS87 : madd S71 11 (7 * sh + 2) (st.1 10 (8 * i + 4)) = S87 at hI
  refine lv_aload_n hx hb dX2_take_88 rfl (lv_at hl 3 rfl) ?_
  refine m_get F hI 11 (by decide) rfl flX2_35 dX2_take_89 ?_
  refine lv_iload_n hx hb dX2_take_92 rfl (lv_at hl 2 rfl) ?_
  refine m_ald F hI  8 (show (n) < 100 by omega) rfl dX2_take_93 ?_
  refine lv_aload_n hx hb dX2_take_94 rfl (lv_at hl 3 rfl) ?_
  refine m_get F hI 13 (by decide) rfl flX2_41 dX2_take_95 ?_
  refine lv_bipush (v := nI 8) hx hb dX2_take_98 (by decide) ?_
  refine lv_iload_n hx hb dX2_take_100 rfl (lv_at hl 4 rfl) ?_
  refine lv_imul hx hb dX2_take_101 ?_
  refine ktop (y := nI (8 * i)) (pk_mul _ _) ?_
  refine lv_bipush (v := nI 7) hx hb dX2_take_102 (by decide) ?_
  refine lv_iadd hx hb dX2_take_104 ?_
  refine ktop (y := nI ((8 * i) + 7)) (nI_add _ _) ?_
  refine m_ald F hI  10 (show ((8 * i) + 7) < 160 by omega) rfl dX2_take_105 ?_
  refine lv_icmp_ne (tgt := 116) hx hb dX2_take_106 (by decide) (fun c106 => ?_) (fun c106 => ?_)
  ·
    exact h116 _ _ _ _ hI (by rw [m_takeA, hS71, hS87, m_tk8, if_neg c106]) (lv_sub hl [2, 3, 4] rfl)
  ·
    refine lv_aload_n hx hb dX2_take_109 rfl (lv_at hl 3 rfl) ?_
    refine m_get F hI 11 (by decide) rfl flX2_35 dX2_take_110 ?_
    refine lv_iload_n hx hb dX2_take_113 rfl (lv_at hl 2 rfl) ?_
    refine lv_iconst (v := nI 0) hx hb dX2_take_114 (by decide) ?_
    refine m_ast F hI 8 (show (n) < 100 by omega) rfl dX2_take_115 (fun H locs hI => ?_)
    exact h116 _ _ _ _ hI (by rw [m_takeA, hS71, hS87, m_tk8, if_pos c106]) (lv_sub hl [2, 3, 4] rfl)
theorem mc_shape_bad (st : MS) (x w : Int32) (h : inR x (nI 0) (nI 4) = false ∨ inR w (nI 0) (nI 6) = false) : kM l yX2_shape cX2_shape 3 (some .int) 1 22 0 0 D (mty K) (mw g K) [.ref (g 0), .int x, .int w] st (fun v u => v = some (.int (-1)) ∧ u = st) := by
  refine kM_intro (by decide) (Nat.le_of_ble_eq_true rfl) ?_
  intro p e s m below meth c A ls F hA hI hl
  obtain ⟨hx, hb, hr, hml, hown, hts, hlk, hK, hnm⟩ := id F
  have hl : lv_has ls 3 [(0, .ref (g 0)), (1, .int x), (2, .int w)] := hl
  refine lv_aload_n hx hb dX2_shape_0 rfl (lv_at hl 0 rfl) ?_
  refine lv_iconst (v := nI 0) hx hb dX2_shape_1 (by decide) ?_
  refine m_putTh F hI flX2_53 dX2_shape_2 (fun H locs hI => ?_)
  refine lv_iload_n hx hb dX2_shape_5 rfl (lv_at hl 1 rfl) ?_
  refine lv_iconst (v := nI 0) hx hb dX2_shape_6 (by decide) ?_
  refine lv_iconst (v := nI 4) hx hb dX2_shape_7 (by decide) ?_
  refine kcallS (rest := []) F hA hI (mc_in l _ _ _ _) kgX2_57 hl.1 rfl rfl (Nat.le_of_ble_eq_true rfl) dX2_shape_8 ⟨Nat.le_of_ble_eq_true rfl, Nat.le_of_ble_eq_true rfl⟩ ⟨Nat.le_of_ble_eq_true rfl, Nat.le_of_ble_eq_true rfl⟩ (fun vq uq H locs hp hI => ?_)
  obtain ⟨rfl, hu⟩ := hp
  rw [hu] at hI
  clear hu
  refine kstk (b := .int _ :: []) rfl ?_
  refine lv_if_eq (tgt := 38) hx hb dX2_shape_11 (by decide) (fun c11 => ?_) (fun c11 => ?_)
  ·
    rw [bI_z] at c11
    refine lv_iconst (v := -1) hx hb dX2_shape_38 (by decide) ?_
    exact kret_i F hI dX2_shape_39 (⟨rfl, rfl⟩)
  ·
    rw [bI_z] at c11
    refine lv_iload_n hx hb dX2_shape_14 rfl (lv_at hl 2 rfl) ?_
    refine lv_iconst (v := nI 0) hx hb dX2_shape_15 (by decide) ?_
    refine lv_bipush (v := nI 6) hx hb dX2_shape_16 (by decide) ?_
    refine kcallS (rest := []) F hA hI (mc_in l _ _ _ _) kgX2_57 hl.1 rfl rfl (Nat.le_of_ble_eq_true rfl) dX2_shape_18 ⟨Nat.le_of_ble_eq_true rfl, Nat.le_of_ble_eq_true rfl⟩ ⟨Nat.le_of_ble_eq_true rfl, Nat.le_of_ble_eq_true rfl⟩ (fun vq uq H locs hp hI => ?_)
    obtain ⟨rfl, hu⟩ := hp
    rw [hu] at hI
    clear hu
    refine kstk (b := .int _ :: []) rfl ?_
    refine lv_if_eq (tgt := 38) hx hb dX2_shape_21 (by decide) (fun c21 => ?_) (fun c21 => absurd c21 ((fun q => q (bI_z.mpr (h.resolve_left c11)))))
    refine lv_iconst (v := -1) hx hb dX2_shape_38 (by decide) ?_
    exact kret_i F hI dX2_shape_39 (⟨rfl, rfl⟩)
theorem mc_shape (st : MS) (i w : Nat) (hi : i < 5) (hw : w < 7) : kM l yX2_shape cX2_shape 3 (some .int) 1 22 0 0 D (mty K) (mw g K) [.ref (g 0), .int (nI i), .int (nI w)] st (fun v u => v = some (.int (st.1 11 (7 * i + w))) ∧ u = st) := by
  refine kM_intro (by decide) (Nat.le_of_ble_eq_true rfl) ?_
  intro p e s m below meth c A ls F hA hI hl
  obtain ⟨hx, hb, hr, hml, hown, hts, hlk, hK, hnm⟩ := id F
  have hl : lv_has ls 3 [(0, .ref (g 0)), (1, .int (nI i)), (2, .int (nI w))] := hl
  have g1 : inR (nI i) (nI 0) (nI 4) = true := inR_in (by decide) (by omega) (by omega)
  have g2 : inR (nI w) (nI 0) (nI 6) = true := inR_in (by decide) (by omega) (by omega)
  refine lv_aload_n hx hb dX2_shape_0 rfl (lv_at hl 0 rfl) ?_
  refine lv_iconst (v := nI 0) hx hb dX2_shape_1 (by decide) ?_
  refine m_putTh F hI flX2_53 dX2_shape_2 (fun H locs hI => ?_)
  refine lv_iload_n hx hb dX2_shape_5 rfl (lv_at hl 1 rfl) ?_
  refine lv_iconst (v := nI 0) hx hb dX2_shape_6 (by decide) ?_
  refine lv_iconst (v := nI 4) hx hb dX2_shape_7 (by decide) ?_
  refine kcallS (rest := []) F hA hI (mc_in l _ _ _ _) kgX2_57 hl.1 rfl rfl (Nat.le_of_ble_eq_true rfl) dX2_shape_8 ⟨Nat.le_of_ble_eq_true rfl, Nat.le_of_ble_eq_true rfl⟩ ⟨Nat.le_of_ble_eq_true rfl, Nat.le_of_ble_eq_true rfl⟩ (fun vq uq H locs hp hI => ?_)
  obtain ⟨rfl, hu⟩ := hp
  rw [hu] at hI
  clear hu
  refine kstk (b := .int _ :: []) rfl ?_
  refine lv_if_eq (tgt := 38) hx hb dX2_shape_11 (by decide) (fun c11 => absurd c11 ((fun q => by rw [bI_z, g1] at q; cases q))) (fun c11 => ?_)
  refine lv_iload_n hx hb dX2_shape_14 rfl (lv_at hl 2 rfl) ?_
  refine lv_iconst (v := nI 0) hx hb dX2_shape_15 (by decide) ?_
  refine lv_bipush (v := nI 6) hx hb dX2_shape_16 (by decide) ?_
  refine kcallS (rest := []) F hA hI (mc_in l _ _ _ _) kgX2_57 hl.1 rfl rfl (Nat.le_of_ble_eq_true rfl) dX2_shape_18 ⟨Nat.le_of_ble_eq_true rfl, Nat.le_of_ble_eq_true rfl⟩ ⟨Nat.le_of_ble_eq_true rfl, Nat.le_of_ble_eq_true rfl⟩ (fun vq uq H locs hp hI => ?_)
  obtain ⟨rfl, hu⟩ := hp
  rw [hu] at hI
  clear hu
  refine kstk (b := .int _ :: []) rfl ?_
  refine lv_if_eq (tgt := 38) hx hb dX2_shape_21 (by decide) (fun c21 => absurd c21 ((fun q => by rw [bI_z, g2] at q; cases q))) (fun c21 => ?_)
  refine lv_aload_n hx hb dX2_shape_24 rfl (lv_at hl 0 rfl) ?_
  refine m_get F hI 15 (by decide) rfl flX2_44 dX2_shape_25 ?_
  refine lv_bipush (v := nI 7) hx hb dX2_shape_28 (by decide) ?_
  refine lv_iload_n hx hb dX2_shape_30 rfl (lv_at hl 1 rfl) ?_
  refine lv_imul hx hb dX2_shape_31 ?_
  refine ktop (y := nI (7 * i)) (pk_mul _ _) ?_
  refine lv_iload_n hx hb dX2_shape_32 rfl (lv_at hl 2 rfl) ?_
  refine lv_iadd hx hb dX2_shape_33 ?_
  refine ktop (y := nI ((7 * i) + w)) (nI_add _ _) ?_
  refine m_ald F hI  11 (show ((7 * i) + w) < 35 by omega) rfl dX2_shape_34 ?_
  refine lv_goto (tgt := 39) hx hb dX2_shape_35 (by decide) ?_
  exact kret_i F hI dX2_shape_39 (⟨rfl, rfl⟩)
theorem mc_step_bad (st : MS) (x : Int32) (h : inR x (nI 0) (nI 13) = false) : kM l yX2_step cX2_step 2 (some .int) 1 22 0 0 D (mty K) (mw g K) [.ref (g 0), .int x] st (fun v u => v = some (.int (-1)) ∧ u = st) := by
  refine kM_intro (by decide) (Nat.le_of_ble_eq_true rfl) ?_
  intro p e s m below meth c A ls F hA hI hl
  obtain ⟨hx, hb, hr, hml, hown, hts, hlk, hK, hnm⟩ := id F
  have hl : lv_has ls 2 [(0, .ref (g 0)), (1, .int x)] := hl
  refine lv_aload_n hx hb dX2_step_0 rfl (lv_at hl 0 rfl) ?_
  refine lv_iconst (v := nI 0) hx hb dX2_step_1 (by decide) ?_
  refine m_putTh F hI flX2_53 dX2_step_2 (fun H locs hI => ?_)
  refine lv_iload_n hx hb dX2_step_5 rfl (lv_at hl 1 rfl) ?_
  refine lv_iconst (v := nI 0) hx hb dX2_step_6 (by decide) ?_
  refine lv_bipush (v := nI 13) hx hb dX2_step_7 (by decide) ?_
  refine kcallS (rest := []) F hA hI (mc_in l _ _ _ _) kgX2_57 hl.1 rfl rfl (Nat.le_of_ble_eq_true rfl) dX2_step_9 ⟨Nat.le_of_ble_eq_true rfl, Nat.le_of_ble_eq_true rfl⟩ ⟨Nat.le_of_ble_eq_true rfl, Nat.le_of_ble_eq_true rfl⟩ (fun vq uq H locs hp hI => ?_)
  obtain ⟨rfl, hu⟩ := hp
  rw [hu] at hI
  clear hu
  refine kstk (b := .int _ :: []) rfl ?_
  refine lv_if_eq (tgt := 24) hx hb dX2_step_12 (by decide) (fun c12 => ?_) (fun c12 => absurd c12 ((fun q => q (bI_z.mpr h))))
  refine lv_iconst (v := -1) hx hb dX2_step_24 (by decide) ?_
  exact kret_i F hI dX2_step_25 (⟨rfl, rfl⟩)
theorem mc_step (st : MS) (j : Nat) (hj : j < 14) : kM l yX2_step cX2_step 2 (some .int) 1 22 0 0 D (mty K) (mw g K) [.ref (g 0), .int (nI j)] st (fun v u => v = some (.int (st.1 12 j)) ∧ u = st) := by
  refine kM_intro (by decide) (Nat.le_of_ble_eq_true rfl) ?_
  intro p e s m below meth c A ls F hA hI hl
  obtain ⟨hx, hb, hr, hml, hown, hts, hlk, hK, hnm⟩ := id F
  have hl : lv_has ls 2 [(0, .ref (g 0)), (1, .int (nI j))] := hl
  have g1 : inR (nI j) (nI 0) (nI 13) = true := inR_in (by decide) (by omega) (by omega)
  refine lv_aload_n hx hb dX2_step_0 rfl (lv_at hl 0 rfl) ?_
  refine lv_iconst (v := nI 0) hx hb dX2_step_1 (by decide) ?_
  refine m_putTh F hI flX2_53 dX2_step_2 (fun H locs hI => ?_)
  refine lv_iload_n hx hb dX2_step_5 rfl (lv_at hl 1 rfl) ?_
  refine lv_iconst (v := nI 0) hx hb dX2_step_6 (by decide) ?_
  refine lv_bipush (v := nI 13) hx hb dX2_step_7 (by decide) ?_
  refine kcallS (rest := []) F hA hI (mc_in l _ _ _ _) kgX2_57 hl.1 rfl rfl (Nat.le_of_ble_eq_true rfl) dX2_step_9 ⟨Nat.le_of_ble_eq_true rfl, Nat.le_of_ble_eq_true rfl⟩ ⟨Nat.le_of_ble_eq_true rfl, Nat.le_of_ble_eq_true rfl⟩ (fun vq uq H locs hp hI => ?_)
  obtain ⟨rfl, hu⟩ := hp
  rw [hu] at hI
  clear hu
  refine kstk (b := .int _ :: []) rfl ?_
  refine lv_if_eq (tgt := 24) hx hb dX2_step_12 (by decide) (fun c12 => absurd c12 ((fun q => by rw [bI_z, g1] at q; cases q))) (fun c12 => ?_)
  refine lv_aload_n hx hb dX2_step_15 rfl (lv_at hl 0 rfl) ?_
  refine m_get F hI 16 (by decide) rfl flX2_47 dX2_step_16 ?_
  refine lv_iload_n hx hb dX2_step_19 rfl (lv_at hl 1 rfl) ?_
  refine m_ald F hI  12 (show j < 14 by omega) rfl dX2_step_20 ?_
  refine lv_goto (tgt := 25) hx hb dX2_step_21 (by decide) ?_
  exact kret_i F hI dX2_step_25 (⟨rfl, rfl⟩)
theorem mc_trace (st : MS) : kM l yX2_trace cX2_trace 1 (some .long) 0 0 0 0 D (mty K) (mw g K) [.ref (g 0)] st (fun v u => v = some (.long st.2.2.1) ∧ u = st) := by
  refine kM_intro (by decide) (Nat.le_of_ble_eq_true rfl) ?_
  intro p e s m below meth c A ls F hA hI hl
  obtain ⟨hx, hb, hr, hml, hown, hts, hlk, hK, hnm⟩ := id F
  have hl : lv_has ls 1 [(0, .ref (g 0))] := hl
  refine lv_aload_n hx hb dX2_trace_0 rfl (lv_at hl 0 rfl) ?_
  refine lv_iconst (v := nI 0) hx hb dX2_trace_1 (by decide) ?_
  refine m_putTh F hI flX2_53 dX2_trace_2 (fun H locs hI => ?_)
  refine lv_aload_n hx hb dX2_trace_5 rfl (lv_at hl 0 rfl) ?_
  refine m_get F hI 2 (by decide) rfl flX2_65 dX2_trace_6 ?_
  exact kret_l F hI dX2_trace_9 (⟨rfl, rfl⟩)
theorem mc_count_bad (st : MS) (x : Int32) (h : inR x (nI 0) (nI 12) = false) : kM l yX2_count cX2_count 4 (some .int) 1 22 0 0 D (mty K) (mw g K) [.ref (g 0), .int x] st (fun v u => v = some (.int (-1)) ∧ u = st) := by
  refine kM_intro (by decide) (Nat.le_of_ble_eq_true rfl) ?_
  intro p e s m below meth c A ls F hA hI hl
  obtain ⟨hx, hb, hr, hml, hown, hts, hlk, hK, hnm⟩ := id F
  have hl : lv_has ls 4 [(0, .ref (g 0)), (1, .int x)] := hl
  refine lv_aload_n hx hb dX2_count_0 rfl (lv_at hl 0 rfl) ?_
  refine lv_iconst (v := nI 0) hx hb dX2_count_1 (by decide) ?_
  refine m_putTh F hI flX2_53 dX2_count_2 (fun H locs hI => ?_)
  refine lv_iload_n hx hb dX2_count_5 rfl (lv_at hl 1 rfl) ?_
  refine lv_iconst (v := nI 0) hx hb dX2_count_6 (by decide) ?_
  refine lv_bipush (v := nI 12) hx hb dX2_count_7 (by decide) ?_
  refine kcallS (rest := []) F hA hI (mc_in l _ _ _ _) kgX2_57 hl.1 rfl rfl (Nat.le_of_ble_eq_true rfl) dX2_count_9 ⟨Nat.le_of_ble_eq_true rfl, Nat.le_of_ble_eq_true rfl⟩ ⟨Nat.le_of_ble_eq_true rfl, Nat.le_of_ble_eq_true rfl⟩ (fun vq uq H locs hp hI => ?_)
  obtain ⟨rfl, hu⟩ := hp
  rw [hu] at hI
  clear hu
  refine kstk (b := .int _ :: []) rfl ?_
  refine lv_if_ne (tgt := 17) hx hb dX2_count_12 (by decide) (fun c12 => absurd c12 ((fun q => q (bI_z.mpr h)))) (fun c12 => ?_)
  refine lv_iconst (v := -1) hx hb dX2_count_15 (by decide) ?_
  exact kret_i F hI dX2_count_16 (⟨rfl, rfl⟩)
theorem mc_count (st : MS) (w : Nat) (hw : w < 13) : kM l yX2_count cX2_count 4 (some .int) 1 22 0 0 D (mty K) (mw g K) [.ref (g 0), .int (nI w)] st (fun v u => v = some (.int (m_count st w)) ∧ u = st) := by
  refine kM_intro (by decide) (Nat.le_of_ble_eq_true rfl) ?_
  intro p e s m below meth c A ls F hA hI hl
  obtain ⟨hx, hb, hr, hml, hown, hts, hlk, hK, hnm⟩ := id F
  have hl : lv_has ls 4 [(0, .ref (g 0)), (1, .int (nI w))] := hl
  have g1 : inR (nI w) (nI 0) (nI 12) = true := inR_in (by decide) (by omega) (by omega)
  have z0 : nI w = 0 ↔ w = 0 := nI_eq (b := 0) (by omega) (by decide)
  refine lv_aload_n hx hb dX2_count_0 rfl (lv_at hl 0 rfl) ?_
  refine lv_iconst (v := nI 0) hx hb dX2_count_1 (by decide) ?_
  refine m_putTh F hI flX2_53 dX2_count_2 (fun H locs hI => ?_)
  refine lv_iload_n hx hb dX2_count_5 rfl (lv_at hl 1 rfl) ?_
  refine lv_iconst (v := nI 0) hx hb dX2_count_6 (by decide) ?_
  refine lv_bipush (v := nI 12) hx hb dX2_count_7 (by decide) ?_
  refine kcallS (rest := []) F hA hI (mc_in l _ _ _ _) kgX2_57 hl.1 rfl rfl (Nat.le_of_ble_eq_true rfl) dX2_count_9 ⟨Nat.le_of_ble_eq_true rfl, Nat.le_of_ble_eq_true rfl⟩ ⟨Nat.le_of_ble_eq_true rfl, Nat.le_of_ble_eq_true rfl⟩ (fun vq uq H locs hp hI => ?_)
  obtain ⟨rfl, hu⟩ := hp
  rw [hu] at hI
  clear hu
  refine kstk (b := .int _ :: []) rfl ?_
  refine lv_if_ne (tgt := 17) hx hb dX2_count_12 (by decide) (fun c12 => ?_) (fun c12 => absurd c12 ((fun q => by rw [bI_z, g1] at q; cases q)))
  refine lv_iconst (v := nI 0) hx hb dX2_count_17 (by decide) ?_
  refine lv_istore_n (lv' := [(2, .int _), (0, .ref _), (1, .int _)]) hx hb dX2_count_18 rfl hl (by decide) rfl (fun ls hl => ?_)
  refine lv_iconst (v := nI 0) hx hb dX2_count_19 (by decide) ?_
  refine lv_istore_n (lv' := [(3, .int _), (2, .int _), (0, .ref _), (1, .int _)]) hx hb dX2_count_20 rfl hl (by decide) rfl (fun ls hl => ?_)
  refine wloop (σ := Nat × Nat × Int32) (fun x => x.1) (fun x H locs ls => x.2.1 + x.1 = 4 ∧ m_upL st x.1 x.2.1 x.2.2 = m_upL st 4 0 (nI 0) ∧ kI D (mw g K) A s.heap st H locs ∧ lv_has ls 4 [(3, .int (nI x.2.1)), (2, .int x.2.2), (0, .ref (g 0)), (1, .int (nI w))]) ?_ (4, 0, nI 0) _ _ _ ⟨rfl, rfl, hI, lv_sub hl [0, 1, 2, 3] rfl⟩
  rintro ⟨f, k, v⟩ H locs ls ⟨hk, he, hI, hl⟩ ih
  dsimp only at hk he hI hl ih
  refine lv_iload_n hx hb dX2_count_21 rfl (lv_at hl 0 rfl) ?_
  refine lv_iconst (v := nI 4) hx hb dX2_count_22 (by decide) ?_
  refine lv_icmp_ge (tgt := 49) hx hb dX2_count_23 (by decide) (fun c23 => ?_) (fun c23 => ?_)
  ·
    rw [nI_leI (by omega) (by omega)] at c23
    obtain rfl : f = 0 := by omega
    have he : v = m_upL st 4 0 (nI 0) := he
    refine lv_iload_n hx hb dX2_count_49 rfl (lv_at hl 3 rfl) ?_
    refine lv_if_ne (tgt := 60) hx hb dX2_count_50 (by decide) (fun c50 => ?_) (fun c50 => ?_)
    ·
      rw [z0] at c50
      refine lv_iload_n hx hb dX2_count_60 rfl (lv_at hl 3 rfl) ?_
      refine lv_iconst (v := nI 1) hx hb dX2_count_61 (by decide) ?_
      refine lv_icmp_ne (tgt := 72) hx hb dX2_count_62 (by decide) (fun c62 => ?_) (fun c62 => ?_)
      ·
        rw [nI_eq (by omega) (by omega)] at c62
        refine lv_iload_n hx hb dX2_count_72 rfl (lv_at hl 3 rfl) ?_
        refine lv_iconst (v := nI 2) hx hb dX2_count_73 (by decide) ?_
        refine lv_icmp_ne (tgt := 84) hx hb dX2_count_74 (by decide) (fun c74 => ?_) (fun c74 => ?_)
        ·
          rw [nI_eq (by omega) (by omega)] at c74
          refine lv_iload_n hx hb dX2_count_84 rfl (lv_at hl 3 rfl) ?_
          refine lv_bipush (v := nI 12) hx hb dX2_count_85 (by decide) ?_
          refine lv_icmp_ne (tgt := 94) hx hb dX2_count_87 (by decide) (fun c87 => ?_) (fun c87 => ?_)
          ·
            rw [nI_eq (by omega) (by omega)] at c87
            refine lv_aload_n hx hb dX2_count_94 rfl (lv_at hl 2 rfl) ?_
            refine m_get F hI 17 (by decide) rfl flX2_50 dX2_count_95 ?_
            refine lv_iload_n hx hb dX2_count_98 rfl (lv_at hl 3 rfl) ?_
            refine m_ald F hI  13 (show w < 13 by omega) rfl dX2_count_99 ?_
            exact kret_i F hI dX2_count_100 (⟨by simp [m_count, c50, c62, c74, c87], rfl⟩)
          ·
            rw [nI_eq (by omega) (by omega)] at c87
            refine lv_iload_n hx hb dX2_count_90 rfl (lv_at hl 1 rfl) ?_
            refine lv_goto (tgt := 100) hx hb dX2_count_91 (by decide) ?_
            exact kret_i F hI dX2_count_100 (⟨by simp [m_count, c87, he], rfl⟩)
        ·
          rw [nI_eq (by omega) (by omega)] at c74
          refine lv_aload_n hx hb dX2_count_77 rfl (lv_at hl 2 rfl) ?_
          refine m_get F hI 14 (by decide) rfl flX2_82 dX2_count_78 ?_
          refine ktop (y := nI (st.2.2.2)) rfl ?_
          refine lv_goto (tgt := 100) hx hb dX2_count_81 (by decide) ?_
          exact kret_i F hI dX2_count_100 (⟨by simp [m_count, c74], rfl⟩)
      ·
        rw [nI_eq (by omega) (by omega)] at c62
        refine lv_aload_n hx hb dX2_count_65 rfl (lv_at hl 2 rfl) ?_
        refine kcallV (rest := []) F hA hI (mc_waitingMany l _) kgX2_100 (m_rec F hI) hl.1 rfl rfl (Nat.le_of_ble_eq_true rfl) dX2_count_66 ⟨Nat.le_of_ble_eq_true rfl, Nat.le_of_ble_eq_true rfl⟩ ⟨Nat.le_of_ble_eq_true rfl, Nat.le_of_ble_eq_true rfl⟩ (fun vq uq H locs hp hI => ?_)
        obtain ⟨rfl, hu⟩ := hp
        rw [hu] at hI
        clear hu
        refine kstk (b := .int _ :: []) rfl ?_
        refine lv_goto (tgt := 100) hx hb dX2_count_69 (by decide) ?_
        exact kret_i F hI dX2_count_100 (⟨by simp [m_count, c62], rfl⟩)
    ·
      rw [z0] at c50
      refine lv_aload_n hx hb dX2_count_53 rfl (lv_at hl 2 rfl) ?_
      refine m_get F hI 1 (by decide) rfl flX2_79 dX2_count_54 ?_
      refine lv_goto (tgt := 100) hx hb dX2_count_57 (by decide) ?_
      exact kret_i F hI dX2_count_100 (⟨by simp [m_count, c50], rfl⟩)
  ·
    rw [nI_leI (by omega) (by omega)] at c23
    obtain ⟨f, rfl⟩ : ∃ f', f = f' + 1 := ⟨f - 1, by omega⟩
    refine lv_iload_n hx hb dX2_count_26 rfl (lv_at hl 1 rfl) ?_
    refine lv_aload_n hx hb dX2_count_27 rfl (lv_at hl 2 rfl) ?_
    refine m_get F hI 3 (by decide) rfl flX2_7 dX2_count_28 ?_
    refine lv_iload_n hx hb dX2_count_31 rfl (lv_at hl 0 rfl) ?_
    refine m_zald F hI  0 (show k < 4 by omega) rfl dX2_count_32 ?_
    refine lv_if_eq (tgt := 40) hx hb dX2_count_33 (by decide) (fun c33 => ?_) (fun c33 => ?_)
    ·
      refine lv_iconst (v := nI 1) hx hb dX2_count_40 (by decide) ?_
      refine lv_iadd hx hb dX2_count_41 ?_
      refine lv_istore_n (lv' := [(2, .int _), (3, .int _), (0, .ref _), (1, .int _)]) hx hb dX2_count_42 rfl hl (by decide) rfl (fun ls hl => ?_)
      refine lv_iinc (v := nI (k + 1)) (lv' := [(3, .int _), (2, .int _), (0, .ref _), (1, .int _)]) hx hb dX2_count_43 hl (k := 1) rfl (kinc _ 1) (by decide) rfl (fun ls hl => ?_)
      refine lv_goto (tgt := 21) hx hb dX2_count_46 (by decide) ?_
      exact ih (f, k + 1, _) _ _ _ (by show f < f + 1; omega) ⟨by show k + 1 + f = _; omega, by rw [← he]; simp [m_upL, c33], hI, lv_sub hl [0, 1, 2, 3] rfl⟩
    ·
      refine lv_iconst (v := nI 0) hx hb dX2_count_36 (by decide) ?_
      refine lv_goto (tgt := 41) hx hb dX2_count_37 (by decide) ?_
      refine lv_iadd hx hb dX2_count_41 ?_
      refine lv_istore_n (lv' := [(2, .int _), (3, .int _), (0, .ref _), (1, .int _)]) hx hb dX2_count_42 rfl hl (by decide) rfl (fun ls hl => ?_)
      refine lv_iinc (v := nI (k + 1)) (lv' := [(3, .int _), (2, .int _), (0, .ref _), (1, .int _)]) hx hb dX2_count_43 hl (k := 1) rfl (kinc _ 1) (by decide) rfl (fun ls hl => ?_)
      refine lv_goto (tgt := 21) hx hb dX2_count_46 (by decide) ?_
      exact ih (f, k + 1, _) _ _ _ (by show f < f + 1; omega) ⟨by show k + 1 + f = _; omega, by rw [← he]; simp [m_upL, c33], hI, lv_sub hl [0, 1, 2, 3] rfl⟩
theorem mc_bound_bad (st : MS) (a b w : Int32) (h : inR b (nI 1) (nI 1000) = false ∨ inR a (nI 0) b = false ∨ inR w (nI 0) (nI 1) = false) : kM l yX2_bound cX2_bound 7 (some .int) 1 22 0 0 D (mty K) (mw g K) [.ref (g 0), .int a, .int b, .int w] st (fun v u => v = some (.int (-1)) ∧ u = st) := by
  refine kM_intro (by decide) (Nat.le_of_ble_eq_true rfl) ?_
  intro p e s m below meth c A ls F hA hI hl
  obtain ⟨hx, hb, hr, hml, hown, hts, hlk, hK, hnm⟩ := id F
  have hl : lv_has ls 7 [(0, .ref (g 0)), (1, .int a), (2, .int b), (3, .int w)] := hl
  refine lv_aload_n hx hb dX2_bound_0 rfl (lv_at hl 0 rfl) ?_
  refine lv_iconst (v := nI 0) hx hb dX2_bound_1 (by decide) ?_
  refine m_putTh F hI flX2_53 dX2_bound_2 (fun H locs hI => ?_)
  refine lv_iload_n hx hb dX2_bound_5 rfl (lv_at hl 2 rfl) ?_
  refine lv_iconst (v := nI 1) hx hb dX2_bound_6 (by decide) ?_
  refine lv_sipush (v := nI 1000) hx hb dX2_bound_7 (by decide) ?_
  refine kcallS (rest := []) F hA hI (mc_in l _ _ _ _) kgX2_57 hl.1 rfl rfl (Nat.le_of_ble_eq_true rfl) dX2_bound_10 ⟨Nat.le_of_ble_eq_true rfl, Nat.le_of_ble_eq_true rfl⟩ ⟨Nat.le_of_ble_eq_true rfl, Nat.le_of_ble_eq_true rfl⟩ (fun vq uq H locs hp hI => ?_)
  obtain ⟨rfl, hu⟩ := hp
  rw [hu] at hI
  clear hu
  refine kstk (b := .int _ :: []) rfl ?_
  refine lv_if_eq (tgt := 34) hx hb dX2_bound_13 (by decide) (fun c13 => ?_) (fun c13 => ?_)
  ·
    rw [bI_z] at c13
    refine lv_iconst (v := -1) hx hb dX2_bound_34 (by decide) ?_
    exact kret_i F hI dX2_bound_35 (⟨rfl, rfl⟩)
  ·
    rw [bI_z] at c13
    refine lv_iload_n hx hb dX2_bound_16 rfl (lv_at hl 1 rfl) ?_
    refine lv_iconst (v := nI 0) hx hb dX2_bound_17 (by decide) ?_
    refine lv_iload_n hx hb dX2_bound_18 rfl (lv_at hl 2 rfl) ?_
    refine kcallS (rest := []) F hA hI (mc_in l _ _ _ _) kgX2_57 hl.1 rfl rfl (Nat.le_of_ble_eq_true rfl) dX2_bound_19 ⟨Nat.le_of_ble_eq_true rfl, Nat.le_of_ble_eq_true rfl⟩ ⟨Nat.le_of_ble_eq_true rfl, Nat.le_of_ble_eq_true rfl⟩ (fun vq uq H locs hp hI => ?_)
    obtain ⟨rfl, hu⟩ := hp
    rw [hu] at hI
    clear hu
    refine kstk (b := .int _ :: []) rfl ?_
    refine lv_if_eq (tgt := 34) hx hb dX2_bound_22 (by decide) (fun c22 => ?_) (fun c22 => ?_)
    ·
      rw [bI_z] at c22
      refine lv_iconst (v := -1) hx hb dX2_bound_34 (by decide) ?_
      exact kret_i F hI dX2_bound_35 (⟨rfl, rfl⟩)
    ·
      rw [bI_z] at c22
      refine lv_iload_n hx hb dX2_bound_25 rfl (lv_at hl 3 rfl) ?_
      refine lv_iconst (v := nI 0) hx hb dX2_bound_26 (by decide) ?_
      refine lv_iconst (v := nI 1) hx hb dX2_bound_27 (by decide) ?_
      refine kcallS (rest := []) F hA hI (mc_in l _ _ _ _) kgX2_57 hl.1 rfl rfl (Nat.le_of_ble_eq_true rfl) dX2_bound_28 ⟨Nat.le_of_ble_eq_true rfl, Nat.le_of_ble_eq_true rfl⟩ ⟨Nat.le_of_ble_eq_true rfl, Nat.le_of_ble_eq_true rfl⟩ (fun vq uq H locs hp hI => ?_)
      obtain ⟨rfl, hu⟩ := hp
      rw [hu] at hI
      clear hu
      refine kstk (b := .int _ :: []) rfl ?_
      refine lv_if_ne (tgt := 36) hx hb dX2_bound_31 (by decide) (fun c31 => absurd c31 ((fun q => q (bI_z.mpr ((h.resolve_left c13).resolve_left c22))))) (fun c31 => ?_)
      refine lv_iconst (v := -1) hx hb dX2_bound_34 (by decide) ?_
      exact kret_i F hI dX2_bound_35 (⟨rfl, rfl⟩)
theorem mc_bound (st : MS) (a b w : Nat) (sN : Nat → Nat) (T : Nat) (hb1 : 1 ≤ b) (hb2 : b ≤ 1000) (ha : a ≤ b) (hw : w < 2) (hT : T < 2 ^ 22) (hS : sumN sN 14 = T) (h12 : ∀ j, j < 14 → st.1 12 j = nI (sN j)) (h10 : st.1 13 10 = nI T) : kM l yX2_bound cX2_bound 7 (some .int) 1 22 0 0 D (mty K) (mw g K) [.ref (g 0), .int (nI a), .int (nI b), .int (nI w)] st (fun v u => v = some (.int (if T = 0 then -9 else bval (bnd sN T a b) w)) ∧ u = st) := by
  refine kM_intro (by decide) (Nat.le_of_ble_eq_true rfl) ?_
  intro p e s m below meth c A ls F hA hI hl
  obtain ⟨hx, hb, hr, hml, hown, hts, hlk, hK, hnm⟩ := id F
  have hl : lv_has ls 7 [(0, .ref (g 0)), (1, .int (nI a)), (2, .int (nI b)), (3, .int (nI w))] := hl
  have g1 : inR (nI b) (nI 1) (nI 1000) = true := inR_in (by decide) (by omega) (by omega)
  have g2 : inR (nI a) (nI 0) (nI b) = true := inR_in (by omega) (by omega) (by omega)
  have g3 : inR (nI w) (nI 0) (nI 1) = true := inR_in (by decide) (by omega) (by omega)
  have zT : nI T = 0 ↔ T = 0 := nI_eq (b := 0) (by omega) (by decide)
  have haT : a * T < 2 ^ 63 := Nat.lt_of_le_of_lt (Nat.mul_le_mul (show a ≤ 1000 by omega) (Nat.le_of_lt hT)) (by decide)
  by_cases hT0 : T = 0
  · have hl := hl
    refine lv_aload_n hx hb dX2_bound_0 rfl (lv_at hl 0 rfl) ?_
    refine lv_iconst (v := nI 0) hx hb dX2_bound_1 (by decide) ?_
    refine m_putTh F hI flX2_53 dX2_bound_2 (fun H locs hI => ?_)
    refine lv_iload_n hx hb dX2_bound_5 rfl (lv_at hl 2 rfl) ?_
    refine lv_iconst (v := nI 1) hx hb dX2_bound_6 (by decide) ?_
    refine lv_sipush (v := nI 1000) hx hb dX2_bound_7 (by decide) ?_
    refine kcallS (rest := []) F hA hI (mc_in l _ _ _ _) kgX2_57 hl.1 rfl rfl (Nat.le_of_ble_eq_true rfl) dX2_bound_10 ⟨Nat.le_of_ble_eq_true rfl, Nat.le_of_ble_eq_true rfl⟩ ⟨Nat.le_of_ble_eq_true rfl, Nat.le_of_ble_eq_true rfl⟩ (fun vq uq H locs hp hI => ?_)
    obtain ⟨rfl, hu⟩ := hp
    rw [hu] at hI
    clear hu
    refine kstk (b := .int _ :: []) rfl ?_
    refine lv_if_eq (tgt := 34) hx hb dX2_bound_13 (by decide) (fun c13 => absurd c13 ((fun q => by rw [bI_z, g1] at q; cases q))) (fun c13 => ?_)
    refine lv_iload_n hx hb dX2_bound_16 rfl (lv_at hl 1 rfl) ?_
    refine lv_iconst (v := nI 0) hx hb dX2_bound_17 (by decide) ?_
    refine lv_iload_n hx hb dX2_bound_18 rfl (lv_at hl 2 rfl) ?_
    refine kcallS (rest := []) F hA hI (mc_in l _ _ _ _) kgX2_57 hl.1 rfl rfl (Nat.le_of_ble_eq_true rfl) dX2_bound_19 ⟨Nat.le_of_ble_eq_true rfl, Nat.le_of_ble_eq_true rfl⟩ ⟨Nat.le_of_ble_eq_true rfl, Nat.le_of_ble_eq_true rfl⟩ (fun vq uq H locs hp hI => ?_)
    obtain ⟨rfl, hu⟩ := hp
    rw [hu] at hI
    clear hu
    refine kstk (b := .int _ :: []) rfl ?_
    refine lv_if_eq (tgt := 34) hx hb dX2_bound_22 (by decide) (fun c22 => absurd c22 ((fun q => by rw [bI_z, g2] at q; cases q))) (fun c22 => ?_)
    refine lv_iload_n hx hb dX2_bound_25 rfl (lv_at hl 3 rfl) ?_
    refine lv_iconst (v := nI 0) hx hb dX2_bound_26 (by decide) ?_
    refine lv_iconst (v := nI 1) hx hb dX2_bound_27 (by decide) ?_
    refine kcallS (rest := []) F hA hI (mc_in l _ _ _ _) kgX2_57 hl.1 rfl rfl (Nat.le_of_ble_eq_true rfl) dX2_bound_28 ⟨Nat.le_of_ble_eq_true rfl, Nat.le_of_ble_eq_true rfl⟩ ⟨Nat.le_of_ble_eq_true rfl, Nat.le_of_ble_eq_true rfl⟩ (fun vq uq H locs hp hI => ?_)
    obtain ⟨rfl, hu⟩ := hp
    rw [hu] at hI
    clear hu
    refine kstk (b := .int _ :: []) rfl ?_
    refine lv_if_ne (tgt := 36) hx hb dX2_bound_31 (by decide) (fun c31 => ?_) (fun c31 => absurd c31 ((fun q => by rw [bI_z, g3] at q; cases q)))
    refine lv_aload_n hx hb dX2_bound_36 rfl (lv_at hl 0 rfl) ?_
    refine m_get F hI 17 (by decide) rfl flX2_50 dX2_bound_37 ?_
    refine lv_bipush (v := nI 10) hx hb dX2_bound_40 (by decide) ?_
    refine m_ald F hI  13 (show 10 < 13 by omega) rfl dX2_bound_42 ?_
    refine ktop (y := nI (T)) (by exact h10) ?_
    refine lv_if_ne (tgt := 49) hx hb dX2_bound_43 (by decide) (fun c43 => absurd c43 ((fun q => q (zT.mpr hT0)))) (fun c43 => ?_)
    refine lv_bipush (v := -9) hx hb dX2_bound_46 (by decide) ?_
    exact kret_i F hI dX2_bound_48 (⟨by simp [hT0], rfl⟩)
  refine lv_aload_n hx hb dX2_bound_0 rfl (lv_at hl 0 rfl) ?_
  refine lv_iconst (v := nI 0) hx hb dX2_bound_1 (by decide) ?_
  refine m_putTh F hI flX2_53 dX2_bound_2 (fun H locs hI => ?_)
  refine lv_iload_n hx hb dX2_bound_5 rfl (lv_at hl 2 rfl) ?_
  refine lv_iconst (v := nI 1) hx hb dX2_bound_6 (by decide) ?_
  refine lv_sipush (v := nI 1000) hx hb dX2_bound_7 (by decide) ?_
  refine kcallS (rest := []) F hA hI (mc_in l _ _ _ _) kgX2_57 hl.1 rfl rfl (Nat.le_of_ble_eq_true rfl) dX2_bound_10 ⟨Nat.le_of_ble_eq_true rfl, Nat.le_of_ble_eq_true rfl⟩ ⟨Nat.le_of_ble_eq_true rfl, Nat.le_of_ble_eq_true rfl⟩ (fun vq uq H locs hp hI => ?_)
  obtain ⟨rfl, hu⟩ := hp
  rw [hu] at hI
  clear hu
  refine kstk (b := .int _ :: []) rfl ?_
  refine lv_if_eq (tgt := 34) hx hb dX2_bound_13 (by decide) (fun c13 => absurd c13 ((fun q => by rw [bI_z, g1] at q; cases q))) (fun c13 => ?_)
  refine lv_iload_n hx hb dX2_bound_16 rfl (lv_at hl 1 rfl) ?_
  refine lv_iconst (v := nI 0) hx hb dX2_bound_17 (by decide) ?_
  refine lv_iload_n hx hb dX2_bound_18 rfl (lv_at hl 2 rfl) ?_
  refine kcallS (rest := []) F hA hI (mc_in l _ _ _ _) kgX2_57 hl.1 rfl rfl (Nat.le_of_ble_eq_true rfl) dX2_bound_19 ⟨Nat.le_of_ble_eq_true rfl, Nat.le_of_ble_eq_true rfl⟩ ⟨Nat.le_of_ble_eq_true rfl, Nat.le_of_ble_eq_true rfl⟩ (fun vq uq H locs hp hI => ?_)
  obtain ⟨rfl, hu⟩ := hp
  rw [hu] at hI
  clear hu
  refine kstk (b := .int _ :: []) rfl ?_
  refine lv_if_eq (tgt := 34) hx hb dX2_bound_22 (by decide) (fun c22 => absurd c22 ((fun q => by rw [bI_z, g2] at q; cases q))) (fun c22 => ?_)
  refine lv_iload_n hx hb dX2_bound_25 rfl (lv_at hl 3 rfl) ?_
  refine lv_iconst (v := nI 0) hx hb dX2_bound_26 (by decide) ?_
  refine lv_iconst (v := nI 1) hx hb dX2_bound_27 (by decide) ?_
  refine kcallS (rest := []) F hA hI (mc_in l _ _ _ _) kgX2_57 hl.1 rfl rfl (Nat.le_of_ble_eq_true rfl) dX2_bound_28 ⟨Nat.le_of_ble_eq_true rfl, Nat.le_of_ble_eq_true rfl⟩ ⟨Nat.le_of_ble_eq_true rfl, Nat.le_of_ble_eq_true rfl⟩ (fun vq uq H locs hp hI => ?_)
  obtain ⟨rfl, hu⟩ := hp
  rw [hu] at hI
  clear hu
  refine kstk (b := .int _ :: []) rfl ?_
  refine lv_if_ne (tgt := 36) hx hb dX2_bound_31 (by decide) (fun c31 => ?_) (fun c31 => absurd c31 ((fun q => by rw [bI_z, g3] at q; cases q)))
  refine lv_aload_n hx hb dX2_bound_36 rfl (lv_at hl 0 rfl) ?_
  refine m_get F hI 17 (by decide) rfl flX2_50 dX2_bound_37 ?_
  refine lv_bipush (v := nI 10) hx hb dX2_bound_40 (by decide) ?_
  refine m_ald F hI  13 (show 10 < 13 by omega) rfl dX2_bound_42 ?_
  refine ktop (y := nI (T)) (by exact h10) ?_
  refine lv_if_ne (tgt := 49) hx hb dX2_bound_43 (by decide) (fun c43 => ?_) (fun c43 => absurd c43 ((fun q => hT0 (zT.mp q))))
  refine lv_iconst (v := nI 0) hx hb dX2_bound_49 (by decide) ?_
  refine lv_istore (lv' := [(4, .int _), (0, .ref _), (1, .int _), (2, .int _), (3, .int _)]) hx hb dX2_bound_50 hl (by decide) rfl (fun ls hl => ?_)
  refine lv_aload_n hx hb dX2_bound_52 rfl (lv_at hl 1 rfl) ?_
  refine m_get F hI 16 (by decide) rfl flX2_47 dX2_bound_53 ?_
  refine lv_iconst (v := nI 0) hx hb dX2_bound_56 (by decide) ?_
  refine m_ald F hI  12 (show 0 < 14 by omega) rfl dX2_bound_57 ?_
  refine ktop (y := nI (sN 0)) (by exact h12 0 (by decide)) ?_
  refine lv_i2l hx hb dX2_bound_58 rfl ?_
  refine ktopl (y := lN (sumN sN (0 + 1))) (by rw [nI_l (show sN 0 < 2 ^ 31 by have := sumN_le sN (show 1 ≤ 14 by decide); have e : sumN sN 1 = 0 + sN 0 := rfl; omega)]; exact congrArg lN (Nat.zero_add _).symm) ?_
  refine lv_lstore (lv' := [(5, .long _), (4, .int _), (0, .ref _), (1, .int _), (2, .int _), (3, .int _)]) hx hb dX2_bound_59 hl (by decide) rfl (fun ls hl => ?_)
  refine wloop (σ := Nat × Nat) (fun x => x.1) (fun x H locs ls => x.2 + x.1 = 13 ∧ bndL sN T a b x.1 x.2 = bnd sN T a b ∧ kI D (mw g K) A s.heap st H locs ∧ lv_has ls 7 [(5, .long (lN (sumN sN (x.2 + 1)))), (4, .int (nI x.2)), (0, .ref (g 0)), (1, .int (nI a)), (2, .int (nI b)), (3, .int (nI w))]) ?_ (13, 0) _ _ _ ⟨rfl, rfl, hI, lv_sub hl [0, 1, 2, 3, 4, 5] rfl⟩
  rintro ⟨f, j⟩ H locs ls ⟨hk, he, hI, hl⟩ ih
  dsimp only at hk he hI hl ih
  have hle := sumN_le sN (show j + 1 ≤ 14 by omega)
  have hsb : sumN sN (j + 1) * b < 2 ^ 63 := Nat.lt_of_le_of_lt (Nat.mul_le_mul (show sumN sN (j + 1) ≤ 2 ^ 22 by omega) hb2) (by decide)
  refine lv_lload hx hb dX2_bound_61 (lv_at hl 0 rfl) ?_
  refine lv_iload_n hx hb dX2_bound_63 rfl (lv_at hl 4 rfl) ?_
  refine lv_i2l hx hb dX2_bound_64 rfl ?_
  refine ktopl (y := lN (b)) (by exact nI_l (by omega)) ?_
  refine lv_lmul hx hb dX2_bound_65 ?_
  refine ktopl (y := lN (sumN sN (j + 1) * b)) (by exact lN_mul _ _) ?_
  refine lv_iload_n hx hb dX2_bound_66 rfl (lv_at hl 3 rfl) ?_
  refine lv_i2l hx hb dX2_bound_67 rfl ?_
  refine ktopl (y := lN (a)) (by exact nI_l (by omega)) ?_
  refine lv_aload_n hx hb dX2_bound_68 rfl (lv_at hl 2 rfl) ?_
  refine m_get F hI 17 (by decide) rfl flX2_50 dX2_bound_69 ?_
  refine lv_bipush (v := nI 10) hx hb dX2_bound_72 (by decide) ?_
  refine m_ald F hI  13 (show 10 < 13 by omega) rfl dX2_bound_74 ?_
  refine ktop (y := nI (T)) (by exact h10) ?_
  refine lv_i2l hx hb dX2_bound_75 rfl ?_
  refine ktopl (y := lN (T)) (by exact nI_l (by omega)) ?_
  refine lv_lmul hx hb dX2_bound_76 ?_
  refine ktopl (y := lN (a * T)) (by exact lN_mul _ _) ?_
  refine W.lcmp hx hb dX2_bound_77 ?_
  refine lv_if_ge (tgt := 100) hx hb dX2_bound_78 (by decide) (fun c78 => ?_) (fun c78 => ?_)
  ·
    rw [lg_cmp_ge, pk_lLE haT hsb] at c78
    have hj : j = bnd sN T a b := by
      rw [← he]
      cases f with
      | zero => rfl
      | succ f => simp [bndL, show ¬ sumN sN (j + 1) * b < a * T by omega]
    have zj : nI j = 0 ↔ j = 0 := nI_eq (b := 0) (by omega) (by decide)
    refine lv_iload_n hx hb dX2_bound_100 rfl (lv_at hl 5 rfl) ?_
    refine lv_iconst (v := nI 1) hx hb dX2_bound_101 (by decide) ?_
    refine lv_icmp_ne (tgt := 112) hx hb dX2_bound_102 (by decide) (fun c102 => ?_) (fun c102 => ?_)
    ·
      rw [nI_eq (by omega) (by omega)] at c102
      refine lv_iload hx hb dX2_bound_112 (lv_at hl 1 rfl) ?_
      refine lv_if_ne (tgt := 121) hx hb dX2_bound_114 (by decide) (fun c114 => ?_) (fun c114 => ?_)
      ·
        rw [zj] at c114
        refine lv_iconst (v := nI 1) hx hb dX2_bound_121 (by decide) ?_
        refine lv_iload hx hb dX2_bound_122 (lv_at hl 1 rfl) ?_
        refine lv_iconst (v := nI 1) hx hb dX2_bound_124 (by decide) ?_
        refine lv_isub hx hb dX2_bound_125 ?_
        refine lv_ishl hx hb dX2_bound_126 ?_
        exact kret_i F hI dX2_bound_127 (⟨by simp [hT0, bval, ← hj, c102, c114], rfl⟩)
      ·
        rw [zj] at c114
        refine lv_iconst (v := nI 0) hx hb dX2_bound_117 (by decide) ?_
        refine lv_goto (tgt := 127) hx hb dX2_bound_118 (by decide) ?_
        exact kret_i F hI dX2_bound_127 (⟨by simp [hT0, bval, ← hj, c102, c114], rfl⟩)
    ·
      rw [nI_eq (by omega) (by omega)] at c102
      refine lv_iconst (v := nI 1) hx hb dX2_bound_105 (by decide) ?_
      refine lv_iload hx hb dX2_bound_106 (lv_at hl 1 rfl) ?_
      refine lv_ishl hx hb dX2_bound_108 ?_
      refine lv_goto (tgt := 127) hx hb dX2_bound_109 (by decide) ?_
      exact kret_i F hI dX2_bound_127 (⟨by simp [hT0, bval, ← hj, c102], rfl⟩)
  ·
    rw [lg_cmp_ge, pk_lLE haT hsb] at c78
    obtain ⟨f, rfl⟩ : ∃ f', f = f' + 1 := by
      cases f with
      | zero =>
        exfalso
        have hj : j = 13 := by omega
        subst hj
        apply c78
        rw [hS, Nat.mul_comm]
        exact Nat.mul_le_mul_left T ha
      | succ f => exact ⟨f, rfl⟩
    refine lv_iinc (v := nI (j + 1)) (lv' := [(4, .int _), (5, .long _), (0, .ref _), (1, .int _), (2, .int _), (3, .int _)]) hx hb dX2_bound_81 hl (k := 1) rfl (kinc _ 1) (by decide) rfl (fun ls hl => ?_)
    refine lv_lload hx hb dX2_bound_84 (lv_at hl 1 rfl) ?_
    refine lv_aload_n hx hb dX2_bound_86 rfl (lv_at hl 2 rfl) ?_
    refine m_get F hI 16 (by decide) rfl flX2_47 dX2_bound_87 ?_
    refine lv_iload hx hb dX2_bound_90 (lv_at hl 0 rfl) ?_
    refine m_ald F hI  12 (show (j + 1) < 14 by omega) rfl dX2_bound_92 ?_
    refine ktop (y := nI (sN (j + 1))) (by exact h12 (j + 1) (by omega)) ?_
    have hj1 := sumN_le sN (show j + 1 + 1 ≤ 14 by omega)
    have e1 : sumN sN (j + 1 + 1) = sumN sN (j + 1) + sN (j + 1) := rfl
    refine lv_i2l hx hb dX2_bound_93 rfl ?_
    refine ktopl (y := lN (sN (j + 1))) (by exact nI_l (by omega)) ?_
    refine lv_ladd hx hb dX2_bound_94 ?_
    refine ktopl (y := lN (sumN sN (j + 1 + 1))) (by exact lN_add _ _) ?_
    refine lv_lstore (lv' := [(5, .long _), (4, .int _), (0, .ref _), (1, .int _), (2, .int _), (3, .int _)]) hx hb dX2_bound_95 hl (by decide) rfl (fun ls hl => ?_)
    refine lv_goto (tgt := 61) hx hb dX2_bound_97 (by decide) ?_
    exact ih (f, j + 1) _ _ _ (by show f < f + 1; omega) ⟨by show j + 1 + f = _; omega, by rw [← he]; simp [bndL, show sumN sN (j + 1) * b < a * T by omega], hI, lv_sub hl [0, 1, 2, 3, 4, 5] rfl⟩
end MC5
end
section
/-! the class's world: its object, eight arrays, five rows of tallies, the pool of its calls -/
abbrev XS : Type := (Nat → Nat → Int32) × (Nat → Nat → Option Nat) × Int64 × List Nat × (Nat → Nat → Int32)
def xset (st : XS) (k i : Nat) (v : Int32) : XS := (va_up st.1 k (upd (st.1 k) i v), st.2)
def xrf (st : XS) (j i : Nat) (o : Option Nat) : XS := (st.1, va_up st.2.1 j (va_up (st.2.1 j) i o), st.2.2)
def xmk (st : XS) (v : Int64) : XS := (st.1, st.2.1, v, st.2.2.2)
def xc (st : XS) (a f : Nat) (v : Int32) : XS := (st.1, st.2.1, st.2.2.1, st.2.2.2.1, va_up st.2.2.2.2 a (upd (st.2.2.2.2 a) f v))
def xnew (st : XS) (q : Nat) : XS := (st.1, st.2.1, st.2.2.1, st.2.2.2.1 ++ [q], va_up st.2.2.2.2 q (fun _ => 0))
def cfs (f : Nat → Int32) : List Value := [.int (f 0), .int (f 1), .int (f 2), .int (f 3), .int (f 4), .int (f 5), .int (f 6), .int (f 7), .int (f 8), .int (f 9), .int (f 10), .int (f 11)]
def xfs (g : Nat → Nat) (st : XS) : List Value := [.ref (g 1), .ref (g 2), .ref (g 3), .ref (g 4), .ref (g 5), .ref (g 6), .ref (g 7), .ref (g 8), .long st.2.2.1]
def xtl (g : Nat → Nat) : Nat → Option Nat := fun i => if i < 5 then some (g (9 + i)) else none
def xfx (g : Nat → Nat) (K : Nat → ClassId) (st : XS) : va_W := [(g 0, .inr (1, xfs g st)), (g 1, .inl (K 0, 4, .inl (st.1 0))), (g 2, .inl (K 1, 6, .inl (st.1 1))), (g 3, .inl (K 1, 13, .inl (st.1 2))), (g 4, .inl (K 2, 5, .inr (.inr (.inr (.inr (xtl g)))))), (g 5, .inl (K 1, 14, .inl (st.1 3))), (g 6, .inl (K 3, 100, .inr (.inr (.inr (.inr (st.2.1 0)))))), (g 7, .inl (K 3, 100, .inr (.inr (.inr (.inr (st.2.1 1)))))), (g 8, .inl (K 3, 20, .inr (.inr (.inr (.inr (st.2.1 2)))))), (g 9, .inl (K 1, 7, .inl (st.1 4))), (g 10, .inl (K 1, 7, .inl (st.1 5))), (g 11, .inl (K 1, 7, .inl (st.1 6))), (g 12, .inl (K 1, 7, .inl (st.1 7))), (g 13, .inl (K 1, 7, .inl (st.1 8)))]
def xpf (st : XS) : Nat → va_E := fun a => .inr (0, cfs (st.2.2.2.2 a))
def xw (g : Nat → Nat) (K : Nat → ClassId) (st : XS) : va_W := xfx g K st ++ va_pl st.2.2.2.1 (xpf st)
abbrev xty (K : Nat → ClassId) : List (ClassId × FieldType) := [(K 0, .boolean), (K 1, .int), (K 2, .array .int), (K 3, .object RX0)]
def xsz (k : Nat) : Nat := match k with
  | 0 => 4
  | 1 => 6
  | 2 => 13
  | 3 => 14
  | _ => 7
def xpl (k : Nat) : Nat := match k with
  | 0 => 1
  | 1 => 2
  | 2 => 3
  | 3 => 5
  | k + 4 => k + 9
def xrz (j : Nat) : Nat := match j with
  | 2 => 20
  | _ => 100
theorem k9 {k : Nat} (h : k < 9) : k = 0 ∨ k = 1 ∨ k = 2 ∨ k = 3 ∨ k = 4 ∨ k = 5 ∨ k = 6 ∨ k = 7 ∨ k = 8 := by omega
theorem xw_at {g : Nat → Nat} {K : Nat → ClassId} {st : XS} {k : Nat} (h : k < 9) : (xw g K st)[xpl k]? = some (g (xpl k), .inl (mcl K k, xsz k, .inl (st.1 k))) := by
  rcases k9 h with rfl | rfl | rfl | rfl | rfl | rfl | rfl | rfl | rfl <;> rfl
theorem xw_set {g : Nat → Nat} {K : Nat → ClassId} {st : XS} {k i : Nat} {v : Int32} (h : k < 9) : (xw g K st).set (xpl k) (g (xpl k), .inl (mcl K k, xsz k, .inl (upd (st.1 k) i v))) = xw g K (xset st k i v) := by
  rcases k9 h with rfl | rfl | rfl | rfl | rfl | rfl | rfl | rfl | rfl <;> rfl
theorem xw_rat {g : Nat → Nat} {K : Nat → ClassId} {st : XS} {j : Nat} (h : j < 3) : (xw g K st)[6 + j]? = some (g (6 + j), .inl (K 3, xrz j, .inr (.inr (.inr (.inr (st.2.1 j)))))) := by
  rcases (show j = 0 ∨ j = 1 ∨ j = 2 by omega) with rfl | rfl | rfl <;> rfl
theorem xw_rset {g : Nat → Nat} {K : Nat → ClassId} {st : XS} {j i : Nat} {o : Option Nat} (h : j < 3) : (xw g K st).set (6 + j) (g (6 + j), .inl (K 3, xrz j, .inr (.inr (.inr (.inr (va_up (st.2.1 j) i o)))))) = xw g K (xrf st j i o) := by
  rcases (show j = 0 ∨ j = 1 ∨ j = 2 by omega) with rfl | rfl | rfl <;> rfl
theorem cfs_set (f : Nat → Int32) (v : Int32) {k : Nat} (h : k < 12) : (cfs f).set k (.int v) = cfs (upd f k v) := by
  rcases (show k = 0 ∨ k = 1 ∨ k = 2 ∨ k = 3 ∨ k = 4 ∨ k = 5 ∨ k = 6 ∨ k = 7 ∨ k = 8 ∨ k = 9 ∨ k = 10 ∨ k = 11 by omega) with rfl | rfl | rfl | rfl | rfl | rfl | rfl | rfl | rfl | rfl | rfl | rfl <;> rfl
theorem cfs_at (f : Nat → Int32) {k : Nat} (h : k < 12) : (cfs f)[k]? = some (.int (f k)) := by
  rcases (show k = 0 ∨ k = 1 ∨ k = 2 ∨ k = 3 ∨ k = 4 ∨ k = 5 ∨ k = 6 ∨ k = 7 ∨ k = 8 ∨ k = 9 ∨ k = 10 ∨ k = 11 by omega) with rfl | rfl | rfl | rfl | rfl | rfl | rfl | rfl | rfl | rfl | rfl | rfl <;> rfl
theorem xpf_c (st : XS) (a f : Nat) (v : Int32) (h : f < 12) (b : Nat) : va_up (xpf st) a (.inr (0, (cfs (st.2.2.2.2 a)).set f (.int v))) b = xpf (xc st a f v) b := by
  by_cases e : b = a
  · subst e
    simp only [va_up_self, xpf, xc]
    rw [cfs_set _ _ h]
  · rw [va_up_ne _ _ e]
    simp only [xpf, xc]
    rw [va_up_ne _ _ e]
theorem xpf_new (st : XS) (q b : Nat) : va_up (xpf st) q (.inr (0, [.int 0, .int 0, .int 0, .int 0, .int 0, .int 0, .int 0, .int 0, .int 0, .int 0, .int 0, .int 0])) b = xpf (xnew st q) b := by
  by_cases e : b = q
  · subst e
    simp only [va_up_self, xpf, xnew]
    rfl
  · rw [va_up_ne _ _ e]
    simp only [xpf, xnew]
    rw [va_up_ne _ _ e]
section XLAY
variable {p : Program} {l : Launch} {e : Env} {R : Room} {s : State} {m : MethodId} {args : Array Value} {below : List Frame} {meth : Method} {c : Code} {H : Heap} {locs : List Loc} {cells slots : Nat} {Q : State → Prop}
variable {cc : ByteArray} {pc : Nat} {ls : Array Slot} {rest : List Value} {D : va_G} {tys : List (ClassId × FieldType)} {A : Nat → Prop} {st : XS} {y0 : MethodName} {n0 : Nat} {r0 : Option FieldType} {g : Nat → Nat} {K : Nat → ClassId}
theorem x_rec (F : kF p s m args meth c y0 cc n0 r0 D tys) (hI : kI D (xw g K) A s.heap st H locs) : ∃ cellB : Cell, H[g 0]? = some cellB ∧ cellB.vm.isStatics = false ∧ s.vm.findClass RX1 = some cellB.cls :=
  va_recv (ci := 1) (q0 := 0) F.2.2.2.2.2.2.2.1 hI.1 rfl rfl
theorem x_crec {a : Nat} (F : kF p s m args meth c y0 cc n0 r0 D tys) (hI : kI D (xw g K) A s.heap st H locs) (ha : a ∈ st.2.2.2.1) : ∃ cellB : Cell, H[a]? = some cellB ∧ cellB.vm.isStatics = false ∧ s.vm.findClass RX0 = some cellB.cls := by
  obtain ⟨k, hk⟩ := va_pl_get (X := xfx g K st) (f := xpf st) ha
  exact va_recv (ci := 0) (q0 := k) F.2.2.2.2.2.2.2.1 hI.1 rfl hk
theorem x_get (F : kF p s m args meth c y0 cc n0 r0 D tys) (hI : kI D (xw g K) A s.heap st H locs) (k : Nat) (hk : k < 9) {v : Value} (hv : (xfs g st)[k]? = some v) {idx : Nat} {ref : String} (hl : Cond.fieldLink y0.cls idx ref (TX1 k).2.1 (TX1 k).2.2.1 ∈ wsL_law) (hdg : decode cc pc = .ok (.getfield idx, 3))
    (kk : W p l e R s m args below meth c H locs cells slots Q (F0 m (pc + 3) ls (v :: rest))) (hrf : ref = (TX1 k).1 := by rfl) : W p l e R s m args below meth c H locs cells slots Q (F0 m pc ls (.ref (g 0) :: rest)) := by
  subst hrf
  obtain ⟨hx, hb, hr, hml, hown, hts, hlk, hK, -⟩ := F
  exact va_get (D := D) (ci := 1) (v := v) (C := RX1) (T := TX1) (N := 9) hx hb hts inlX1 hown hK hI.1 0 rfl rfl k hk (hts _ hl) (fun _ h9 => h9) hv hdg kk
theorem x_putMk {v : Int64} (F : kF p s m args meth c y0 cc n0 r0 D tys) (hI : kI D (xw g K) A s.heap st H locs) {idx : Nat} (hl : Cond.fieldLink y0.cls idx "CallKeepers" "marks" "J" ∈ wsL_law) (hdg : decode cc pc = .ok (.putfield idx, 3))
    (kk : ∀ (H : Heap) (locs : List Loc), kI D (xw g K) A s.heap (xmk st v) H locs → W p l e R s m args below meth c H locs cells slots Q (F0 m (pc + 3) ls rest)) : W p l e R s m args below meth c H locs cells slots Q (F0 m pc ls (.long v :: .ref (g 0) :: rest)) := by
  obtain ⟨hx, hb, hr, hml, hown, hts, hlk, hK, -⟩ := F
  exact va_put (D := D) (ci := 1) (v := .long v) (ty := .long) (C := RX1) (T := TX1) (N := 9) hx hb hts inlX1 tyX1 tyX1_ok nmX1 hown hK hI.1 hI.2.1 hI.2.2 0 rfl rfl 8 (by decide) (hts _ hl) (fun _ h9 => h9) rfl (by decide +kernel) rfl rfl (Nat.le_of_ble_eq_true rfl) hdg (fun H locs hP hD hS => kk H locs ⟨hP, hD, hS⟩)
theorem x_cget {a : Nat} (F : kF p s m args meth c y0 cc n0 r0 D tys) (hI : kI D (xw g K) A s.heap st H locs) (ha : a ∈ st.2.2.2.1) (k : Nat) (hk : k < 12) {ref : String} (hrf : ref = (TX0 k).1) {idx : Nat} (hl : Cond.fieldLink y0.cls idx ref (TX0 k).2.1 (TX0 k).2.2.1 ∈ wsL_law) (hdg : decode cc pc = .ok (.getfield idx, 3))
    (kk : W p l e R s m args below meth c H locs cells slots Q (F0 m (pc + 3) ls (.int (st.2.2.2.2 a k) :: rest))) : W p l e R s m args below meth c H locs cells slots Q (F0 m pc ls (.ref a :: rest)) := by
  subst hrf
  obtain ⟨q0, hq⟩ := va_pl_get (X := xfx g K st) (f := xpf st) ha
  obtain ⟨hx, hb, hr, hml, hown, hts, hlk, hK, -⟩ := F
  exact va_get (D := D) (ci := 0) (v := .int (st.2.2.2.2 a k)) (C := RX0) (T := TX0) (N := 12) hx hb hts inlX0 hown hK hI.1 q0 hq rfl k hk (hts _ hl) (fun _ h9 => h9) (cfs_at _ hk) hdg kk
theorem x_cput {a : Nat} {v : Int32} (F : kF p s m args meth c y0 cc n0 r0 D tys) (hI : kI D (xw g K) A s.heap st H locs) (ha : a ∈ st.2.2.2.1) (k : Nat) (hk : k < 12) {ref : String} (hrf : ref = (TX0 k).1) {idx : Nat} (hl : Cond.fieldLink y0.cls idx ref (TX0 k).2.1 (TX0 k).2.2.1 ∈ wsL_law) {ty : FieldType} (hd : parseFieldDescriptor (TX0 k).2.2.1 = some ty) (hn : narrow ty (.int v) = .int v) (hfit : fits ty (.int v) = true) (hfin : (TX0 k).2.2.2 = false) (hdg : decode cc pc = .ok (.putfield idx, 3))
    (kk : ∀ (H : Heap) (locs : List Loc), kI D (xw g K) A s.heap (xc st a k v) H locs → W p l e R s m args below meth c H locs cells slots Q (F0 m (pc + 3) ls rest)) : W p l e R s m args below meth c H locs cells slots Q (F0 m pc ls (.int v :: .ref a :: rest)) := by
  subst hrf
  obtain ⟨q0, hq⟩ := va_pl_get (X := xfx g K st) (f := xpf st) ha
  obtain ⟨hx, hb, hr, hml, hown, hts, hlk, hK, -⟩ := F
  refine va_put (D := D) (ci := 0) (v := .int v) (ty := ty) (C := RX0) (T := TX0) (N := 12) hx hb hts inlX0 tyX0 tyX0_ok nmX0 hown hK hI.1 hI.2.1 hI.2.2 q0 hq rfl k hk (hts _ hl) (fun _ h9 => h9) hfin hd hn hfit hk hdg (fun H locs hP hD hS => kk H locs ?_)
  have e1 := va_pl_set (e := .inr (0, (cfs (st.2.2.2.2 a)).set k (.int v))) hI.2.1 ha hq
  have e2 : xfx g K st ++ va_pl st.2.2.2.1 (va_up (xpf st) a (.inr (0, (cfs (st.2.2.2.2 a)).set k (.int v)))) = xw g K (xc st a k v) := congrArg (fun l => xfx g K st ++ l) (va_pl_congr (xpf_c st a k v hk))
  exact ⟨by rw [← e2, ← e1]; exact hP, by rw [← e2, ← e1]; exact hD, hS⟩
theorem x_cputF {a : Nat} {v : Int32} (F : kF p s m args meth c y0 cc n0 r0 D tys) (hI : kI D (xw g K) A s.heap st H locs) (ha : a ∈ st.2.2.2.1) (k : Nat) (hk : k < 12) {idx : Nat} (hl : Cond.fieldLink y0.cls idx (TX0 k).1 (TX0 k).2.1 (TX0 k).2.2.1 ∈ wsL_law) (hd : parseFieldDescriptor (TX0 k).2.2.1 = some .int) (hfin : (TX0 k).2.2.2 = true) (hy : y0.name = "<init>") (hc : (TX0 k).1 = y0.cls) (hdg : decode cc pc = .ok (.putfield idx, 3))
    (kk : ∀ (H : Heap) (locs : List Loc), kI D (xw g K) A s.heap (xc st a k v) H locs → W p l e R s m args below meth c H locs cells slots Q (F0 m (pc + 3) ls rest)) : W p l e R s m args below meth c H locs cells slots Q (F0 m pc ls (.int v :: .ref a :: rest)) := by
  obtain ⟨q0, hq⟩ := va_pl_get (X := xfx g K st) (f := xpf st) ha
  obtain ⟨hx, hb, hr, hml, hown, hts, hlk, hK, hnm⟩ := F
  refine va_putF (D := D) (ci := 0) (v := .int v) (ty := .int) (C := RX0) (T := TX0) (N := 12) hx hb hts inlX0 tyX0 tyX0_ok nmX0 hown hK hI.1 hI.2.1 hI.2.2 q0 hq rfl k hk (hts _ hl) (fun _ h9 => h9) hfin (hnm.trans hy) hc hd rfl rfl hk hdg (fun H locs hP hD hS => kk H locs ?_)
  have e1 := va_pl_set (e := .inr (0, (cfs (st.2.2.2.2 a)).set k (.int v))) hI.2.1 ha hq
  have e2 : xfx g K st ++ va_pl st.2.2.2.1 (va_up (xpf st) a (.inr (0, (cfs (st.2.2.2.2 a)).set k (.int v)))) = xw g K (xc st a k v) := congrArg (fun l => xfx g K st ++ l) (va_pl_congr (xpf_c st a k v hk))
  exact ⟨by rw [← e2, ← e1]; exact hP, by rw [← e2, ← e1]; exact hD, hS⟩
theorem x_ald (F : kF p s m args meth c y0 cc n0 r0 D (xty K)) (hI : kI D (xw g K) A s.heap st H locs) (k : Nat) {i : Nat} {x : Int32} (hi : i < xsz k) (hxi : x = nI i) (hdg : decode cc pc = .ok (.iaload, 1))
    (kk : W p l e R s m args below meth c H locs cells slots Q (F0 m (pc + 1) ls (.int (st.1 k i) :: rest))) (hk : k < 9 := by decide) (h0 : 0 < k := by decide) (hz : xsz k < 2 ^ 31 := by decide) : W p l e R s m args below meth c H locs cells slots Q (F0 m pc ls (.int x :: .ref (g (xpl k)) :: rest)) := by
  subst hxi
  obtain ⟨hx, hb, hr, hml, hown, hts, hlk, hK, -⟩ := F
  have ha := xw_at (g := g) (K := K) (st := st) hk
  rw [mcl_n0 h0] at ha
  refine va_iald hx hb hK hI.1 (xpl k) 1 ha rfl (vp_in_nI hi hz) hdg ?_
  rw [nI_clamp (Nat.lt_trans hi hz)]
  exact kk
theorem x_zald (F : kF p s m args meth c y0 cc n0 r0 D (xty K)) (hI : kI D (xw g K) A s.heap st H locs) (k : Nat) {i : Nat} {x : Int32} (hi : i < xsz k) (hxi : x = nI i) (hdg : decode cc pc = .ok (.baload, 1))
    (kk : W p l e R s m args below meth c H locs cells slots Q (F0 m (pc + 1) ls (.int (st.1 k i) :: rest))) (hk : k = 0 := by decide) : W p l e R s m args below meth c H locs cells slots Q (F0 m pc ls (.int x :: .ref (g (xpl k)) :: rest)) := by
  subst hxi
  subst hk
  obtain ⟨hx, hb, hr, hml, hown, hts, hlk, hK, -⟩ := F
  refine va_zald hx hb hK hI.1 1 0 rfl rfl (vp_in_nI hi (by decide)) hdg ?_
  rw [nI_clamp (Nat.lt_trans hi (by decide))]
  exact kk
theorem x_ast (F : kF p s m args meth c y0 cc n0 r0 D (xty K)) (hI : kI D (xw g K) A s.heap st H locs) (k : Nat) {i : Nat} {x v : Int32} (hi : i < xsz k) (hxi : x = nI i) (hdg : decode cc pc = .ok (.iastore, 1))
    (kk : ∀ (H : Heap) (locs : List Loc), kI D (xw g K) A s.heap (xset st k i v) H locs → W p l e R s m args below meth c H locs cells slots Q (F0 m (pc + 1) ls rest)) (hk : k < 9 := by decide) (h0 : 0 < k := by decide) (hz : xsz k < 2 ^ 31 := by decide) : W p l e R s m args below meth c H locs cells slots Q (F0 m pc ls (.int v :: .int x :: .ref (g (xpl k)) :: rest)) := by
  subst hxi
  obtain ⟨hx, hb, hr, hml, hown, hts, hlk, hK, -⟩ := F
  have ha := xw_at (g := g) (K := K) (st := st) hk
  have he := xw_set (g := g) (K := K) (st := st) (i := i) (v := v) hk
  rw [mcl_n0 h0] at ha he
  refine va_iast hx hb hK hI.1 hI.2.1 hI.2.2 (xpl k) 1 ha rfl (vp_in_nI hi hz) hdg (fun H locs hP hD hS => ?_)
  rw [nI_clamp (Nat.lt_trans hi hz), he] at hP hD
  exact kk H locs ⟨hP, hD, hS⟩
theorem x_zast (F : kF p s m args meth c y0 cc n0 r0 D (xty K)) (hI : kI D (xw g K) A s.heap st H locs) (k : Nat) {i : Nat} {x v : Int32} (hi : i < xsz k) (hxi : x = nI i) (hn : vp_nar .boolean v = v) (hdg : decode cc pc = .ok (.bastore, 1))
    (kk : ∀ (H : Heap) (locs : List Loc), kI D (xw g K) A s.heap (xset st k i v) H locs → W p l e R s m args below meth c H locs cells slots Q (F0 m (pc + 1) ls rest)) (hk : k = 0 := by decide) : W p l e R s m args below meth c H locs cells slots Q (F0 m pc ls (.int v :: .int x :: .ref (g (xpl k)) :: rest)) := by
  subst hxi
  subst hk
  obtain ⟨hx, hb, hr, hml, hown, hts, hlk, hK, -⟩ := F
  refine va_zast hx hb hK hI.1 hI.2.1 hI.2.2 1 0 rfl rfl (vp_in_nI hi (by decide)) hdg (fun H locs hP hD hS => ?_)
  rw [nI_clamp (Nat.lt_trans hi (by decide)), hn] at hP hD
  exact kk H locs ⟨hP, hD, hS⟩
theorem x_tald {s' : Nat} (F : kF p s m args meth c y0 cc n0 r0 D (xty K)) (hI : kI D (xw g K) A s.heap st H locs) (hs : s' < 5) {i : Nat} {x : Int32} (hi : i < 7) (hxi : x = nI i) (hdg : decode cc pc = .ok (.iaload, 1))
    (kk : W p l e R s m args below meth c H locs cells slots Q (F0 m (pc + 1) ls (.int (st.1 (4 + s') i) :: rest))) : W p l e R s m args below meth c H locs cells slots Q (F0 m pc ls (.int x :: .ref (g (9 + s')) :: rest)) := by
  rcases (show s' = 0 ∨ s' = 1 ∨ s' = 2 ∨ s' = 3 ∨ s' = 4 by omega) with rfl | rfl | rfl | rfl | rfl
  · exact x_ald F hI 4 hi hxi hdg kk
  · exact x_ald F hI 5 hi hxi hdg kk
  · exact x_ald F hI 6 hi hxi hdg kk
  · exact x_ald F hI 7 hi hxi hdg kk
  · exact x_ald F hI 8 hi hxi hdg kk
theorem x_tast {s' : Nat} (F : kF p s m args meth c y0 cc n0 r0 D (xty K)) (hI : kI D (xw g K) A s.heap st H locs) (hs : s' < 5) {i : Nat} {x v : Int32} (hi : i < 7) (hxi : x = nI i) (hdg : decode cc pc = .ok (.iastore, 1))
    (kk : ∀ (H : Heap) (locs : List Loc), kI D (xw g K) A s.heap (xset st (4 + s') i v) H locs → W p l e R s m args below meth c H locs cells slots Q (F0 m (pc + 1) ls rest)) : W p l e R s m args below meth c H locs cells slots Q (F0 m pc ls (.int v :: .int x :: .ref (g (9 + s')) :: rest)) := by
  rcases (show s' = 0 ∨ s' = 1 ∨ s' = 2 ∨ s' = 3 ∨ s' = 4 by omega) with rfl | rfl | rfl | rfl | rfl
  · exact x_ast F hI 4 hi hxi hdg kk
  · exact x_ast F hI 5 hi hxi hdg kk
  · exact x_ast F hI 6 hi hxi hdg kk
  · exact x_ast F hI 7 hi hxi hdg kk
  · exact x_ast F hI 8 hi hxi hdg kk
theorem x_tal {s' : Nat} (F : kF p s m args meth c y0 cc n0 r0 D (xty K)) (hI : kI D (xw g K) A s.heap st H locs) (hs : s' < 5) {x : Int32} (hxi : x = nI s') (hdg : decode cc pc = .ok (.aaload, 1))
    (kk : W p l e R s m args below meth c H locs cells slots Q (F0 m (pc + 1) ls (.ref (g (9 + s')) :: rest))) : W p l e R s m args below meth c H locs cells slots Q (F0 m pc ls (.int x :: .ref (g 4) :: rest)) := by
  subst hxi
  obtain ⟨hx, hb, hr, hml, hown, hts, hlk, hK, -⟩ := F
  have hin : vp_in (nI s') 5 := vp_in_nI hs (by decide)
  refine W.aald (v := .ref (g (9 + s'))) (ty := .array .int) hx hb (hI.1 4 _ rfl) ((hK.2 2 _ rfl).1 5 (fun j => va_rf (xtl g j))) rfl (fun q => by cases q) (by show ¬ (nI s' < 0 ∨ (arrV _ _ _).slots.size ≤ _); rw [arrV_size]; exact hin) (by show (arrV _ _ _).slots[_]? = _; rw [nI_clamp (by omega), arrV_read _ _ hs]; simp [xtl, hs, va_rf]) rfl rfl hdg kk
theorem x_rld (F : kF p s m args meth c y0 cc n0 r0 D (xty K)) (hI : kI D (xw g K) A s.heap st H locs) (j : Nat) {i : Nat} {x : Int32} (hi : i < xrz j) (hxi : x = nI i) (hdg : decode cc pc = .ok (.aaload, 1))
    (kk : W p l e R s m args below meth c H locs cells slots Q (F0 m (pc + 1) ls (va_rf (st.2.1 j i) :: rest))) (hj : j < 3 := by decide) (hz : xrz j < 2 ^ 31 := by decide) : W p l e R s m args below meth c H locs cells slots Q (F0 m pc ls (.int x :: .ref (g (6 + j)) :: rest)) := by
  subst hxi
  obtain ⟨hx, hb, hr, hml, hown, hts, hlk, hK, -⟩ := F
  refine va_aldq hx hb hK hI.1 (6 + j) 3 (xw_rat hj) rfl (vp_in_nI hi hz) hdg ?_
  rw [nI_clamp (Nat.lt_trans hi hz)]
  exact kk
theorem x_rst {a : Nat} (F : kF p s m args meth c y0 cc n0 r0 D (xty K)) (hI : kI D (xw g K) A s.heap st H locs) (ha : a ∈ st.2.2.2.1) (j : Nat) {i : Nat} {x : Int32} (hi : i < xrz j) (hxi : x = nI i) (hdg : decode cc pc = .ok (.aastore, 1))
    (kk : ∀ (H : Heap) (locs : List Loc), kI D (xw g K) A s.heap (xrf st j i (some a)) H locs → W p l e R s m args below meth c H locs cells slots Q (F0 m (pc + 1) ls rest)) (hj : j < 3 := by decide) (hz : xrz j < 2 ^ 31 := by decide) : W p l e R s m args below meth c H locs cells slots Q (F0 m pc ls (.ref a :: .int x :: .ref (g (6 + j)) :: rest)) := by
  subst hxi
  obtain ⟨q0, hq⟩ := va_pl_get (X := xfx g K st) (f := xpf st) ha
  obtain ⟨hx, hb, hr, hml, hown, hts, hlk, hK, -⟩ := F
  have he := xw_rset (g := g) (K := K) (st := st) (i := i) (o := some a) hj
  refine va_astq (r := (RX0, TX0, 12)) hx hb hK hI.1 hI.2.1 hI.2.2 (6 + j) 3 q0 0 (xw_rat hj) rfl hq rfl (vp_in_nI hi hz) hdg (fun H locs hP hD hS => ?_)
  rw [nI_clamp (Nat.lt_trans hi hz), he] at hP hD
  exact kk H locs ⟨hP, hD, hS⟩
theorem x_rstN (F : kF p s m args meth c y0 cc n0 r0 D (xty K)) (hI : kI D (xw g K) A s.heap st H locs) (j : Nat) {i : Nat} {x : Int32} (hi : i < xrz j) (hxi : x = nI i) (hdg : decode cc pc = .ok (.aastore, 1))
    (kk : ∀ (H : Heap) (locs : List Loc), kI D (xw g K) A s.heap (xrf st j i none) H locs → W p l e R s m args below meth c H locs cells slots Q (F0 m (pc + 1) ls rest)) (hj : j < 3 := by decide) (hz : xrz j < 2 ^ 31 := by decide) : W p l e R s m args below meth c H locs cells slots Q (F0 m pc ls (.null :: .int x :: .ref (g (6 + j)) :: rest)) := by
  subst hxi
  obtain ⟨hx, hb, hr, hml, hown, hts, hlk, hK, -⟩ := F
  have he := xw_rset (g := g) (K := K) (st := st) (i := i) (o := none) hj
  refine va_astqN hx hb hK hI.1 hI.2.1 hI.2.2 (6 + j) 3 (xw_rat hj) rfl (vp_in_nI hi hz) hdg (fun H locs hP hD hS => ?_)
  rw [nI_clamp (Nat.lt_trans hi hz), he] at hP hD
  exact kk H locs ⟨hP, hD, hS⟩
theorem x_rstQ {o : Option Nat} (F : kF p s m args meth c y0 cc n0 r0 D (xty K)) (hI : kI D (xw g K) A s.heap st H locs) (ho : ∀ a, o = some a → a ∈ st.2.2.2.1) (j : Nat) {i : Nat} {x : Int32} (hi : i < xrz j) (hxi : x = nI i) (hdg : decode cc pc = .ok (.aastore, 1))
    (kk : ∀ (H : Heap) (locs : List Loc), kI D (xw g K) A s.heap (xrf st j i o) H locs → W p l e R s m args below meth c H locs cells slots Q (F0 m (pc + 1) ls rest)) (hj : j < 3 := by decide) (hz : xrz j < 2 ^ 31 := by decide) : W p l e R s m args below meth c H locs cells slots Q (F0 m pc ls (va_rf o :: .int x :: .ref (g (6 + j)) :: rest)) := by
  cases o with
  | none => exact x_rstN F hI j hi hxi hdg kk hj hz
  | some a => exact x_rst F hI (ho a rfl) j hi hxi hdg kk hj hz
theorem x_new (F : kF p s m args meth c y0 cc n0 r0 D tys) (hA : ∀ q, s.heap.size ≤ q → A q) (hI : kI D (xw g K) A s.heap st H locs) {idx : Nat} (hl : Cond.classLink y0.cls idx RX0 ∈ wsL_law) (hl2 : Cond.instantiable RX0 12 ∈ wsL_law) (hl3 : Cond.initialized RX0 ∈ wsL_law) (hcells : cells + 1 ≤ R.cells) (hslots : slots + 12 ≤ R.slots) (hdg : decode cc pc = .ok (.new idx, 3))
    (kk : ∀ (q : Nat) (H : Heap), q ∉ st.2.2.2.1 → kI D (xw g K) A s.heap (xnew st q) H locs → W p l e R s m args below meth c H locs (cells + 1) (slots + 12) Q (F0 m (pc + 3) ls (.ref q :: rest))) : W p l e R s m args below meth c H locs cells slots Q (F0 m pc ls rest) := by
  obtain ⟨hx, hb, hr, hml, hown, hts, hlk, hK, -⟩ := F
  refine va_new (ci := 0) (fs := [.int 0, .int 0, .int 0, .int 0, .int 0, .int 0, .int 0, .int 0, .int 0, .int 0, .int 0, .int 0]) (C := RX0) (T := TX0) (N := 12) hx hb hts inlX0 tyX0 tyX0_ok hown (hts _ hl) (hts _ hl2) (hts _ hl3) hK hI.1 hI.2.1 hI.2.2 hA rfl (fun j hj => by rcases (show j = 0 ∨ j = 1 ∨ j = 2 ∨ j = 3 ∨ j = 4 ∨ j = 5 ∨ j = 6 ∨ j = 7 ∨ j = 8 ∨ j = 9 ∨ j = 10 ∨ j = 11 by omega) with rfl | rfl | rfl | rfl | rfl | rfl | rfl | rfl | rfl | rfl | rfl | rfl <;> rfl) hcells hslots hdg (fun q H hP hD hS => ?_)
  have hq : q ∉ st.2.2.2.1 := va_pl_fresh2 (X := xfx g K st) (f := xpf st) hD
  have e1 : (xfx g K st ++ va_pl st.2.2.2.1 (xpf st)) ++ [(q, .inr (0, [.int 0, .int 0, .int 0, .int 0, .int 0, .int 0, .int 0, .int 0, .int 0, .int 0, .int 0, .int 0]))] = xw g K (xnew st q) := by
    rw [List.append_assoc, va_pl_push hq]
    exact congrArg (fun l => xfx g K st ++ l) (va_pl_congr (xpf_new st q))
  exact kk q H hq ⟨by rw [← e1]; exact hP, by rw [← e1]; exact hD, hS⟩
end XLAY
end
section
/-! the class: its call, its tests, homes -/
abbrev cf (st : XS) (a f : Nat) : Int32 := st.2.2.2.2 a f
def xinc (st : XS) (k i : Nat) : XS := xset st k i (st.1 k i + nI 1)
def xadd (st : XS) (k i : Nat) (v : Int32) : XS := xset st k i (st.1 k i + v)
def xsub (st : XS) (k i : Nat) (v : Int32) : XS := xset st k i (st.1 k i - v)
def x_up (st : XS) : Nat → Bool := fun k => decide (¬ st.1 0 k = 0)
def x_has (p : Int32) (pq : Nat) : Bool := decide (¬ p &&& (nI 1 <<< (nI pq &&& 31)) = 0)
def x_contr (last p : Int32) (pq : Nat) (il : Bool) : Bool := (decide (¬ last = -9) && decide (¬ nI pq ≤ last)) || ((il && decide (¬ p >>> (nI (pq + 1) &&& 31) = 0)) || (il && (decide (¬ last = -9) && decide (¬ last = nI pq))))
def x_whole (last p : Int32) : Bool := decide (¬ last = -9 ∧ p &&& (nI 2 <<< (last &&& 31) - nI 1) = nI 2 <<< (last &&& 31) - nI 1)
def xcor (st : XS) (a f : Nat) (v : Int32) : XS := xc st a f (cf st a f ||| v)
def xcad (st : XS) (a f : Nat) (v : Int32) : XS := xc st a f (cf st a f + v)
def x_add (st : XS) (a pq : Nat) (z : Int32) : XS := xcad (xcor st a 4 (nI 1 <<< (nI pq &&& 31))) a 5 z
def x_born (st : XS) (a : Nat) (n sh k t : Int32) : XS := xc (xc (xc (xc (xc (xc (xc (xc (xc (xc (xc (xc st a 4 (nI 0)) a 5 (nI 0)) a 6 (-9)) a 7 (nI 0)) a 8 (nI 0)) a 9 (nI 0)) a 10 (nI 0)) a 11 (nI 0)) a 0 n) a 1 sh) a 3 k) a 2 t
def x_stop (st : XS) (n : Nat) : XS := xsub (xrf st 0 n none) 2 1 (nI 1)
theorem sh1 : ∀ j, j < 31 → nI 1 <<< (nI j &&& 31) = nI (2 ^ j) := by decide
section XC1
variable (l : Launch) {D : va_G} {g : Nat → Nat} {K : Nat → ClassId}
theorem xc_isBelow (st : XS) (a b : Int32) : kM l yX1_isBelow cX1_isBelow 2 (some .boolean) 0 0 0 0 D (xty K) (xw g K) [.int a, .int b] st (fun v u => v = some (.int (bI (decide (¬ a < 0 ∧ ¬ b ≤ a)))) ∧ u = st) := by
  refine kM_intro (by decide) (Nat.le_of_ble_eq_true rfl) ?_
  intro p e s m below meth c A ls F hA hI hl
  obtain ⟨hx, hb, hr, hml, hown, hts, hlk, hK, hnm⟩ := id F
  have hl : lv_has ls 2 [(0, .int a), (1, .int b)] := hl
  refine lv_iload_n hx hb dX1_isBelow_0 rfl (lv_at hl 0 rfl) ?_
  refine lv_if_lt (tgt := 13) hx hb dX1_isBelow_1 (by decide) (fun c1 => ?_) (fun c1 => ?_)
  ·
    refine lv_iconst (v := nI 0) hx hb dX1_isBelow_13 (by decide) ?_
    exact kret_z F hI dX1_isBelow_14 (by decide) (⟨by simp [bI, c1], rfl⟩)
  ·
    refine lv_iload_n hx hb dX1_isBelow_4 rfl (lv_at hl 0 rfl) ?_
    refine lv_iload_n hx hb dX1_isBelow_5 rfl (lv_at hl 1 rfl) ?_
    refine lv_icmp_ge (tgt := 13) hx hb dX1_isBelow_6 (by decide) (fun c6 => ?_) (fun c6 => ?_)
    ·
      refine lv_iconst (v := nI 0) hx hb dX1_isBelow_13 (by decide) ?_
      exact kret_z F hI dX1_isBelow_14 (by decide) (⟨by simp [bI, c1, c6], rfl⟩)
    ·
      refine lv_iconst (v := nI 1) hx hb dX1_isBelow_9 (by decide) ?_
      refine lv_goto (tgt := 14) hx hb dX1_isBelow_10 (by decide) ?_
      exact kret_z F hI dX1_isBelow_14 (by decide) (⟨by simp [bI, c1, c6], rfl⟩)
theorem xc_isWithin (st : XS) (a b c : Int32) : kM l yX1_isWithin cX1_isWithin 3 (some .boolean) 0 0 0 0 D (xty K) (xw g K) [.int a, .int b, .int c] st (fun v u => v = some (.int (bI (inR a b c))) ∧ u = st) := by
  refine kM_intro (by decide) (Nat.le_of_ble_eq_true rfl) ?_
  intro p e s m below meth c' A ls F hA hI hl
  obtain ⟨hx, hb, hr, hml, hown, hts, hlk, hK, hnm⟩ := id F
  have hl : lv_has ls 3 [(0, .int a), (1, .int b), (2, .int c)] := hl
  refine lv_iload_n hx hb dX1_isWithin_0 rfl (lv_at hl 0 rfl) ?_
  refine lv_iload_n hx hb dX1_isWithin_1 rfl (lv_at hl 1 rfl) ?_
  refine lv_icmp_lt (tgt := 14) hx hb dX1_isWithin_2 (by decide) (fun c2 => ?_) (fun c2 => ?_)
  ·
    refine lv_iconst (v := nI 0) hx hb dX1_isWithin_14 (by decide) ?_
    exact kret_z F hI dX1_isWithin_15 (by decide) (⟨by simp [inR, bI, c2], rfl⟩)
  ·
    refine lv_iload_n hx hb dX1_isWithin_5 rfl (lv_at hl 0 rfl) ?_
    refine lv_iload_n hx hb dX1_isWithin_6 rfl (lv_at hl 2 rfl) ?_
    refine lv_icmp_gt (tgt := 14) hx hb dX1_isWithin_7 (by decide) (fun c7 => ?_) (fun c7 => ?_)
    ·
      refine lv_iconst (v := nI 0) hx hb dX1_isWithin_14 (by decide) ?_
      exact kret_z F hI dX1_isWithin_15 (by decide) (⟨by simp [inR, bI, c2, c7], rfl⟩)
    ·
      refine lv_iconst (v := nI 1) hx hb dX1_isWithin_10 (by decide) ?_
      refine lv_goto (tgt := 15) hx hb dX1_isWithin_11 (by decide) ?_
      exact kret_z F hI dX1_isWithin_15 (by decide) (⟨by simp [inR, bI, c2, c7], rfl⟩)
theorem xc_has (st : XS) (a pq : Nat) (ha : a ∈ st.2.2.2.1) : kM l yX0_has cX0_has 2 (some .boolean) 0 0 0 0 D (xty K) (xw g K) [.ref a, .int (nI pq)] st (fun v u => v = some (.int (bI (x_has (cf st a 4) pq))) ∧ u = st) := by
  refine kM_intro (by decide) (Nat.le_of_ble_eq_true rfl) ?_
  intro p e s m below meth c A ls F hA hI hl
  obtain ⟨hx, hb, hr, hml, hown, hts, hlk, hK, hnm⟩ := id F
  have hl : lv_has ls 2 [(0, .ref a), (1, .int (nI pq))] := hl
  refine lv_aload_n hx hb dX0_has_0 rfl (lv_at hl 0 rfl) ?_
  refine x_cget F hI ha 4 (by decide) rfl flX0_9 dX0_has_1 ?_
  refine lv_iconst (v := nI 1) hx hb dX0_has_4 (by decide) ?_
  refine lv_iload_n hx hb dX0_has_5 rfl (lv_at hl 1 rfl) ?_
  refine lv_ishl hx hb dX0_has_6 ?_
  refine lv_iand hx hb dX0_has_7 ?_
  refine lv_if_eq (tgt := 15) hx hb dX0_has_8 (by decide) (fun c8 => ?_) (fun c8 => ?_)
  ·
    refine lv_iconst (v := nI 0) hx hb dX0_has_15 (by decide) ?_
    exact kret_z F hI dX0_has_16 (by decide) (⟨by simp [x_has, bI, c8], rfl⟩)
  ·
    refine lv_iconst (v := nI 1) hx hb dX0_has_11 (by decide) ?_
    refine lv_goto (tgt := 16) hx hb dX0_has_12 (by decide) ?_
    exact kret_z F hI dX0_has_16 (by decide) (⟨by simp [x_has, bI, c8], rfl⟩)
theorem xc_add (st : XS) (a pq : Nat) (z : Int32) (ha : a ∈ st.2.2.2.1) : kM l yX0_add cX0_add 3 none 0 0 0 0 D (xty K) (xw g K) [.ref a, .int (nI pq), .int z] st (fun v u => v = none ∧ u = x_add st a pq z) := by
  refine kM_intro (by decide) (Nat.le_of_ble_eq_true rfl) ?_
  intro p e s m below meth c A ls F hA hI hl
  obtain ⟨hx, hb, hr, hml, hown, hts, hlk, hK, hnm⟩ := id F
  have hl : lv_has ls 3 [(0, .ref a), (1, .int (nI pq)), (2, .int z)] := hl
  refine lv_aload_n hx hb dX0_add_0 rfl (lv_at hl 0 rfl) ?_
  refine lv_dup hx hb dX0_add_1 rfl ?_
  refine x_cget F hI ha 4 (by decide) rfl flX0_9 dX0_add_2 ?_
  refine lv_iconst (v := nI 1) hx hb dX0_add_5 (by decide) ?_
  refine lv_iload_n hx hb dX0_add_6 rfl (lv_at hl 1 rfl) ?_
  refine lv_ishl hx hb dX0_add_7 ?_
  refine lv_ior hx hb dX0_add_8 ?_
  refine x_cput (ty := .int) F hI ha 4 (by decide) rfl flX0_9 (by decide +kernel) rfl rfl rfl dX0_add_9 (fun H locs hI => ?_)
  have hI : kI D _ A s.heap (xcor st a 4 (nI 1 <<< (nI pq &&& 31))) H locs := hI
  generalize hS9 : xcor st a 4 (nI 1 <<< (nI pq &&& 31)) = S9 at hI
  have ha : a ∈ S9.2.2.2.1 := by rw [← hS9]; exact ha
  refine lv_aload_n hx hb dX0_add_12 rfl (lv_at hl 0 rfl) ?_
  refine lv_dup hx hb dX0_add_13 rfl ?_
  refine x_cget F hI ha 5 (by decide) rfl flX0_15 dX0_add_14 ?_
  refine lv_iload_n hx hb dX0_add_17 rfl (lv_at hl 2 rfl) ?_
  refine lv_iadd hx hb dX0_add_18 ?_
  refine x_cput (ty := .int) F hI ha 5 (by decide) rfl flX0_15 (by decide +kernel) rfl rfl rfl dX0_add_19 (fun H locs hI => ?_)
  have hI : kI D _ A s.heap (xcad S9 a 5 z) H locs := hI
  generalize hS19 : xcad S9 a 5 z = S19 at hI
  exact kret_v F hI dX0_add_22 (⟨rfl, by rw [x_add, hS9, hS19]⟩)
theorem xc_isWhole (st : XS) (a : Nat) (ha : a ∈ st.2.2.2.1) : kM l yX0_isWhole cX0_isWhole 2 (some .boolean) 0 0 0 0 D (xty K) (xw g K) [.ref a] st (fun v u => v = some (.int (bI (x_whole (cf st a 6) (cf st a 4)))) ∧ u = st) := by
  refine kM_intro (by decide) (Nat.le_of_ble_eq_true rfl) ?_
  intro p e s m below meth c A ls F hA hI hl
  obtain ⟨hx, hb, hr, hml, hown, hts, hlk, hK, hnm⟩ := id F
  have hl : lv_has ls 2 [(0, .ref a)] := hl
  refine lv_aload_n hx hb dX0_isWhole_0 rfl (lv_at hl 0 rfl) ?_
  refine x_cget F hI ha 6 (by decide) rfl flX0_18 dX0_isWhole_1 ?_
  refine lv_bipush (v := -9) hx hb dX0_isWhole_4 (by decide) ?_
  refine lv_icmp_ne (tgt := 11) hx hb dX0_isWhole_6 (by decide) (fun c6 => ?_) (fun c6 => ?_)
  ·
    refine lv_iconst (v := nI 2) hx hb dX0_isWhole_11 (by decide) ?_
    refine lv_aload_n hx hb dX0_isWhole_12 rfl (lv_at hl 0 rfl) ?_
    refine x_cget F hI ha 6 (by decide) rfl flX0_18 dX0_isWhole_13 ?_
    refine lv_ishl hx hb dX0_isWhole_16 ?_
    refine lv_iconst (v := nI 1) hx hb dX0_isWhole_17 (by decide) ?_
    refine lv_isub hx hb dX0_isWhole_18 ?_
    refine lv_istore_n (lv' := [(1, .int _), (0, .ref _)]) hx hb dX0_isWhole_19 rfl hl (by decide) rfl (fun ls hl => ?_)
    refine lv_aload_n hx hb dX0_isWhole_20 rfl (lv_at hl 1 rfl) ?_
    refine x_cget F hI ha 4 (by decide) rfl flX0_9 dX0_isWhole_21 ?_
    refine lv_iload_n hx hb dX0_isWhole_24 rfl (lv_at hl 0 rfl) ?_
    refine lv_iand hx hb dX0_isWhole_25 ?_
    refine lv_iload_n hx hb dX0_isWhole_26 rfl (lv_at hl 0 rfl) ?_
    refine lv_icmp_ne (tgt := 34) hx hb dX0_isWhole_27 (by decide) (fun c27 => ?_) (fun c27 => ?_)
    ·
      refine lv_iconst (v := nI 0) hx hb dX0_isWhole_34 (by decide) ?_
      exact kret_z F hI dX0_isWhole_35 (by decide) (⟨by simp [x_whole, bI, c6, c27], rfl⟩)
    ·
      refine lv_iconst (v := nI 1) hx hb dX0_isWhole_30 (by decide) ?_
      refine lv_goto (tgt := 35) hx hb dX0_isWhole_31 (by decide) ?_
      exact kret_z F hI dX0_isWhole_35 (by decide) (⟨by simp [x_whole, bI, c6, c27], rfl⟩)
  ·
    refine lv_iconst (v := nI 0) hx hb dX0_isWhole_9 (by decide) ?_
    exact kret_z F hI dX0_isWhole_10 (by decide) (⟨by simp [x_whole, bI, c6], rfl⟩)
theorem xc_contr (st : XS) (a pq : Nat) (il : Bool) (ha : a ∈ st.2.2.2.1) : kM l yX0_contradicts cX0_contradicts 6 (some .boolean) 0 0 0 0 D (xty K) (xw g K) [.ref a, .int (nI pq), .int (bI il)] st (fun v u => v = some (.int (bI (x_contr (st.2.2.2.2 a 6) (st.2.2.2.2 a 4) pq il))) ∧ u = st) := by
  refine kM_intro (by decide) (Nat.le_of_ble_eq_true rfl) ?_
  intro p e s m below meth c A ls F hA hI hl
  obtain ⟨hx, hb, hr, hml, hown, hts, hlk, hK, hnm⟩ := id F
  have hl : lv_has ls 6 [(0, .ref a), (1, .int (nI pq)), (2, .int (bI il))] := hl
  have h73 : ∀ (x y w : Bool) (H : Heap) (locs : List Loc) (ls : Array Slot), kI D (xw g K) A s.heap st H locs → x_contr (st.2.2.2.2 a 6) (st.2.2.2.2 a 4) pq il = (x || (y || w)) → lv_has ls 6 [(5, .int (bI w)), (4, .int (bI y)), (3, .int (bI x)), (0, .ref a), (1, .int (nI pq)), (2, .int (bI il))] → W p l e { frames := 0, cells := 0, slots := 0, locals := 0 } s m #[.ref a, .int (nI pq), .int (bI il)] below meth c H locs 0 0 (MQ below (kQ D (xty K) (xw g K) (fun v u => v = some (.int (bI (x_contr (st.2.2.2.2 a 6) (st.2.2.2.2 a 4) pq il))) ∧ u = st) A) #[.ref a, .int (nI pq), .int (bI il)] s 0 0 A) (F0 m 73 ls []) := by
    intro x y w H locs ls hI he hl
    refine lv_iload_n hx hb dX0_contradicts_73 rfl (lv_at hl 2 rfl) ?_
    refine lv_if_ne (tgt := 87) hx hb dX0_contradicts_74 (by decide) (fun c74 => ?_) (fun c74 => ?_)
    ·
      rw [bI_z] at c74
      refine lv_iconst (v := nI 1) hx hb dX0_contradicts_87 (by decide) ?_
      refine lv_goto (tgt := 92) hx hb dX0_contradicts_88 (by decide) ?_
      exact kret_z F hI dX0_contradicts_92 (by decide) (⟨by rw [he]; simp at c74; simp [c74, bI], rfl⟩)
    ·
      rw [bI_z] at c74
      refine lv_iload hx hb dX0_contradicts_77 (lv_at hl 1 rfl) ?_
      refine lv_if_ne (tgt := 87) hx hb dX0_contradicts_79 (by decide) (fun c79 => ?_) (fun c79 => ?_)
      ·
        rw [bI_z] at c79
        refine lv_iconst (v := nI 1) hx hb dX0_contradicts_87 (by decide) ?_
        refine lv_goto (tgt := 92) hx hb dX0_contradicts_88 (by decide) ?_
        exact kret_z F hI dX0_contradicts_92 (by decide) (⟨by rw [he]; simp at c79; simp [c79, bI], rfl⟩)
      ·
        rw [bI_z] at c79
        refine lv_iload hx hb dX0_contradicts_82 (lv_at hl 0 rfl) ?_
        refine lv_if_eq (tgt := 91) hx hb dX0_contradicts_84 (by decide) (fun c84 => ?_) (fun c84 => ?_)
        ·
          rw [bI_z] at c84
          refine lv_iconst (v := nI 0) hx hb dX0_contradicts_91 (by decide) ?_
          exact kret_z F hI dX0_contradicts_92 (by decide) (⟨by rw [he]; simp [c74, c79, c84, bI], rfl⟩)
        ·
          rw [bI_z] at c84
          refine lv_iconst (v := nI 1) hx hb dX0_contradicts_87 (by decide) ?_
          refine lv_goto (tgt := 92) hx hb dX0_contradicts_88 (by decide) ?_
          exact kret_z F hI dX0_contradicts_92 (by decide) (⟨by rw [he]; simp at c84; simp [c84, bI], rfl⟩)
  have h45 : ∀ (x y : Bool) (H : Heap) (locs : List Loc) (ls : Array Slot), kI D (xw g K) A s.heap st H locs → x = (decide (¬ cf st a 6 = -9) && decide (¬ nI pq ≤ cf st a 6)) → y = (il && decide (¬ cf st a 4 >>> (nI (pq + 1) &&& 31) = 0)) → lv_has ls 6 [(4, .int (bI y)), (3, .int (bI x)), (0, .ref a), (1, .int (nI pq)), (2, .int (bI il))] → W p l e { frames := 0, cells := 0, slots := 0, locals := 0 } s m #[.ref a, .int (nI pq), .int (bI il)] below meth c H locs 0 0 (MQ below (kQ D (xty K) (xw g K) (fun v u => v = some (.int (bI (x_contr (st.2.2.2.2 a 6) (st.2.2.2.2 a 4) pq il))) ∧ u = st) A) #[.ref a, .int (nI pq), .int (bI il)] s 0 0 A) (F0 m 45 ls []) := by
    intro x y H locs ls hI hx1 hy1 hl
    refine lv_iload_n hx hb dX0_contradicts_45 rfl (lv_at hl 4 rfl) ?_
    refine lv_if_eq (tgt := 70) hx hb dX0_contradicts_46 (by decide) (fun c46 => ?_) (fun c46 => ?_)
    ·
      rw [bI_z] at c46
      refine lv_iconst (v := nI 0) hx hb dX0_contradicts_70 (by decide) ?_
      refine lv_istore (lv' := [(5, .int _), (4, .int _), (3, .int _), (0, .ref _), (1, .int _), (2, .int _)]) hx hb dX0_contradicts_71 hl (by decide) rfl (fun ls hl => ?_)
      exact h73 x y false _ _ _ hI (by rw [hx1, hy1]; simp [x_contr, c46]) (lv_sub hl [0, 1, 2, 3, 4, 5] rfl)
    ·
      rw [bI_z] at c46
      refine lv_aload_n hx hb dX0_contradicts_49 rfl (lv_at hl 2 rfl) ?_
      refine x_cget F hI ha 6 (by decide) rfl flX0_18 dX0_contradicts_50 ?_
      refine lv_bipush (v := -9) hx hb dX0_contradicts_53 (by decide) ?_
      refine lv_icmp_eq (tgt := 70) hx hb dX0_contradicts_55 (by decide) (fun c55 => ?_) (fun c55 => ?_)
      ·
        refine lv_iconst (v := nI 0) hx hb dX0_contradicts_70 (by decide) ?_
        refine lv_istore (lv' := [(5, .int _), (4, .int _), (3, .int _), (0, .ref _), (1, .int _), (2, .int _)]) hx hb dX0_contradicts_71 hl (by decide) rfl (fun ls hl => ?_)
        exact h73 x y false _ _ _ hI (by rw [hx1, hy1]; simp [x_contr, c55]) (lv_sub hl [0, 1, 2, 3, 4, 5] rfl)
      ·
        refine lv_aload_n hx hb dX0_contradicts_58 rfl (lv_at hl 2 rfl) ?_
        refine x_cget F hI ha 6 (by decide) rfl flX0_18 dX0_contradicts_59 ?_
        refine lv_iload_n hx hb dX0_contradicts_62 rfl (lv_at hl 3 rfl) ?_
        refine lv_icmp_eq (tgt := 70) hx hb dX0_contradicts_63 (by decide) (fun c63 => ?_) (fun c63 => ?_)
        ·
          refine lv_iconst (v := nI 0) hx hb dX0_contradicts_70 (by decide) ?_
          refine lv_istore (lv' := [(5, .int _), (4, .int _), (3, .int _), (0, .ref _), (1, .int _), (2, .int _)]) hx hb dX0_contradicts_71 hl (by decide) rfl (fun ls hl => ?_)
          exact h73 x y false _ _ _ hI (by rw [hx1, hy1]; simp [x_contr, c63]) (lv_sub hl [0, 1, 2, 3, 4, 5] rfl)
        ·
          refine lv_iconst (v := nI 1) hx hb dX0_contradicts_66 (by decide) ?_
          refine lv_goto (tgt := 71) hx hb dX0_contradicts_67 (by decide) ?_
          refine lv_istore (lv' := [(5, .int _), (4, .int _), (3, .int _), (0, .ref _), (1, .int _), (2, .int _)]) hx hb dX0_contradicts_71 hl (by decide) rfl (fun ls hl => ?_)
          exact h73 x y true _ _ _ hI (by rw [hx1, hy1]; simp at c46; simp [x_contr, c46, c55, c63]) (lv_sub hl [0, 1, 2, 3, 4, 5] rfl)
  have h23 : ∀ (x : Bool) (H : Heap) (locs : List Loc) (ls : Array Slot), kI D (xw g K) A s.heap st H locs → x = (decide (¬ cf st a 6 = -9) && decide (¬ nI pq ≤ cf st a 6)) → lv_has ls 6 [(3, .int (bI x)), (0, .ref a), (1, .int (nI pq)), (2, .int (bI il))] → W p l e { frames := 0, cells := 0, slots := 0, locals := 0 } s m #[.ref a, .int (nI pq), .int (bI il)] below meth c H locs 0 0 (MQ below (kQ D (xty K) (xw g K) (fun v u => v = some (.int (bI (x_contr (st.2.2.2.2 a 6) (st.2.2.2.2 a 4) pq il))) ∧ u = st) A) #[.ref a, .int (nI pq), .int (bI il)] s 0 0 A) (F0 m 23 ls []) := by
    intro x H locs ls hI hx1 hl
    refine lv_iload_n hx hb dX0_contradicts_23 rfl (lv_at hl 3 rfl) ?_
    refine lv_if_eq (tgt := 42) hx hb dX0_contradicts_24 (by decide) (fun c24 => ?_) (fun c24 => ?_)
    ·
      rw [bI_z] at c24
      refine lv_iconst (v := nI 0) hx hb dX0_contradicts_42 (by decide) ?_
      refine lv_istore (lv' := [(4, .int _), (3, .int _), (0, .ref _), (1, .int _), (2, .int _)]) hx hb dX0_contradicts_43 hl (by decide) rfl (fun ls hl => ?_)
      exact h45 x false _ _ _ hI hx1 (by simp [c24]) (lv_sub hl [0, 1, 2, 3, 4] rfl)
    ·
      rw [bI_z] at c24
      refine lv_aload_n hx hb dX0_contradicts_27 rfl (lv_at hl 1 rfl) ?_
      refine x_cget F hI ha 4 (by decide) rfl flX0_9 dX0_contradicts_28 ?_
      refine lv_iload_n hx hb dX0_contradicts_31 rfl (lv_at hl 2 rfl) ?_
      refine lv_iconst (v := nI 1) hx hb dX0_contradicts_32 (by decide) ?_
      refine lv_iadd hx hb dX0_contradicts_33 ?_
      refine ktop (y := nI (pq + 1)) (nI_add _ _) ?_
      refine lv_ishr hx hb dX0_contradicts_34 ?_
      refine lv_if_eq (tgt := 42) hx hb dX0_contradicts_35 (by decide) (fun c35 => ?_) (fun c35 => ?_)
      ·
        refine lv_iconst (v := nI 0) hx hb dX0_contradicts_42 (by decide) ?_
        refine lv_istore (lv' := [(4, .int _), (3, .int _), (0, .ref _), (1, .int _), (2, .int _)]) hx hb dX0_contradicts_43 hl (by decide) rfl (fun ls hl => ?_)
        exact h45 x false _ _ _ hI hx1 (by simp [c35]) (lv_sub hl [0, 1, 2, 3, 4] rfl)
      ·
        refine lv_iconst (v := nI 1) hx hb dX0_contradicts_38 (by decide) ?_
        refine lv_goto (tgt := 43) hx hb dX0_contradicts_39 (by decide) ?_
        refine lv_istore (lv' := [(4, .int _), (3, .int _), (0, .ref _), (1, .int _), (2, .int _)]) hx hb dX0_contradicts_43 hl (by decide) rfl (fun ls hl => ?_)
        exact h45 x true _ _ _ hI hx1 (by simp at c24; simp [c24, c35]) (lv_sub hl [0, 1, 2, 3, 4] rfl)
  refine lv_aload_n hx hb dX0_contradicts_0 rfl (lv_at hl 0 rfl) ?_
  refine x_cget F hI ha 6 (by decide) rfl flX0_18 dX0_contradicts_1 ?_
  refine lv_bipush (v := -9) hx hb dX0_contradicts_4 (by decide) ?_
  refine lv_icmp_eq (tgt := 21) hx hb dX0_contradicts_6 (by decide) (fun c6 => ?_) (fun c6 => ?_)
  ·
    refine lv_iconst (v := nI 0) hx hb dX0_contradicts_21 (by decide) ?_
    refine lv_istore_n (lv' := [(3, .int _), (0, .ref _), (1, .int _), (2, .int _)]) hx hb dX0_contradicts_22 rfl hl (by decide) rfl (fun ls hl => ?_)
    exact h23 false _ _ _ hI (by simp [c6]) (lv_sub hl [0, 1, 2, 3] rfl)
  ·
    refine lv_iload_n hx hb dX0_contradicts_9 rfl (lv_at hl 1 rfl) ?_
    refine lv_aload_n hx hb dX0_contradicts_10 rfl (lv_at hl 0 rfl) ?_
    refine x_cget F hI ha 6 (by decide) rfl flX0_18 dX0_contradicts_11 ?_
    refine lv_icmp_le (tgt := 21) hx hb dX0_contradicts_14 (by decide) (fun c14 => ?_) (fun c14 => ?_)
    ·
      refine lv_iconst (v := nI 0) hx hb dX0_contradicts_21 (by decide) ?_
      refine lv_istore_n (lv' := [(3, .int _), (0, .ref _), (1, .int _), (2, .int _)]) hx hb dX0_contradicts_22 rfl hl (by decide) rfl (fun ls hl => ?_)
      exact h23 false _ _ _ hI (by simp [c14]) (lv_sub hl [0, 1, 2, 3] rfl)
    ·
      refine lv_iconst (v := nI 1) hx hb dX0_contradicts_17 (by decide) ?_
      refine lv_goto (tgt := 22) hx hb dX0_contradicts_18 (by decide) ?_
      refine lv_istore_n (lv' := [(3, .int _), (0, .ref _), (1, .int _), (2, .int _)]) hx hb dX0_contradicts_22 rfl hl (by decide) rfl (fun ls hl => ?_)
      exact h23 true _ _ _ hI (by simp [c6, c14]) (lv_sub hl [0, 1, 2, 3] rfl)
theorem xc_homeOf (st : XS) (n : Nat) (hn : n < 100) : kM l yX1_homeOf cX1_homeOf 6 (some .int) 0 0 0 0 D (xty K) (xw g K) [.ref (g 0), .int (nI n)] st (fun v u => v = some (.int (hm (x_up st) n)) ∧ u = st) := by
  refine kM_intro (by decide) (Nat.le_of_ble_eq_true rfl) ?_
  intro p e s m below meth c A ls F hA hI hl
  obtain ⟨hx, hb, hr, hml, hown, hts, hlk, hK, hnm⟩ := id F
  have hl : lv_has ls 6 [(0, .ref (g 0)), (1, .int (nI n))] := hl
  refine lv_bipush (v := -9) hx hb dX1_homeOf_0 (by decide) ?_
  refine lv_istore_n (lv' := [(2, .int _), (0, .ref _), (1, .int _)]) hx hb dX1_homeOf_2 rfl hl (by decide) rfl (fun ls hl => ?_)
  refine lv_iconst (v := -1) hx hb dX1_homeOf_3 (by decide) ?_
  refine lv_istore_n (lv' := [(3, .int _), (2, .int _), (0, .ref _), (1, .int _)]) hx hb dX1_homeOf_4 rfl hl (by decide) rfl (fun ls hl => ?_)
  refine lv_iconst (v := nI 0) hx hb dX1_homeOf_5 (by decide) ?_
  refine lv_istore (lv' := [(4, .int _), (3, .int _), (2, .int _), (0, .ref _), (1, .int _)]) hx hb dX1_homeOf_6 hl (by decide) rfl (fun ls hl => ?_)
  refine wloop (σ := Nat × Nat × Int32 × Int32) (fun x => x.1) (fun x H locs ls => x.2.1 + x.1 = 4 ∧ hmL (x_up st) n x.1 x.2.1 x.2.2.1 x.2.2.2 = hm (x_up st) n ∧ kI D (xw g K) A s.heap st H locs ∧ lv_has ls 6 [(4, .int (nI x.2.1)), (3, .int x.2.2.2), (2, .int x.2.2.1), (0, .ref (g 0)), (1, .int (nI n))]) ?_ (4, 0, -9, -1) _ _ _ ⟨rfl, rfl, hI, lv_sub hl [0, 1, 2, 3, 4] rfl⟩
  rintro ⟨f, k, b, t⟩ H locs ls ⟨hk, he, hI, hl⟩ ih
  dsimp only at hk he hI hl ih
  refine lv_iload hx hb dX1_homeOf_8 (lv_at hl 0 rfl) ?_
  refine lv_iconst (v := nI 4) hx hb dX1_homeOf_10 (by decide) ?_
  refine lv_icmp_ge (tgt := 56) hx hb dX1_homeOf_11 (by decide) (fun c11 => ?_) (fun c11 => ?_)
  ·
    rw [nI_leI (by omega) (by omega)] at c11
    obtain rfl : f = 0 := by omega
    refine lv_iload_n hx hb dX1_homeOf_56 rfl (lv_at hl 2 rfl) ?_
    exact kret_i F hI dX1_homeOf_57 (⟨by rw [← he]; rfl, rfl⟩)
  ·
    rw [nI_leI (by omega) (by omega)] at c11
    obtain ⟨f, rfl⟩ : ∃ f', f = f' + 1 := ⟨f - 1, by omega⟩
    refine lv_bipush (v := nI 7) hx hb dX1_homeOf_14 (by decide) ?_
    refine lv_iload_n hx hb dX1_homeOf_16 rfl (lv_at hl 4 rfl) ?_
    refine lv_imul hx hb dX1_homeOf_17 ?_
    refine ktop (y := nI (7 * n)) (pk_mul _ _) ?_
    refine lv_iconst (v := nI 5) hx hb dX1_homeOf_18 (by decide) ?_
    refine lv_iload hx hb dX1_homeOf_19 (lv_at hl 0 rfl) ?_
    refine lv_imul hx hb dX1_homeOf_21 ?_
    refine ktop (y := nI (5 * k)) (pk_mul _ _) ?_
    refine lv_iadd hx hb dX1_homeOf_22 ?_
    refine ktop (y := nI ((7 * n) + (5 * k))) (nI_add _ _) ?_
    refine lv_bipush (v := nI 11) hx hb dX1_homeOf_23 (by decide) ?_
    refine lv_irem hx hb dX1_homeOf_25 (by decide) ?_
    refine ktop (y := nI ((7 * n + 5 * k) % 11)) (by exact pk_rem (by omega) (by omega) (by omega)) ?_
    refine lv_istore (lv' := [(5, .int _), (4, .int _), (3, .int _), (2, .int _), (0, .ref _), (1, .int _)]) hx hb dX1_homeOf_26 hl (by decide) rfl (fun ls hl => ?_)
    refine lv_aload_n hx hb dX1_homeOf_28 rfl (lv_at hl 4 rfl) ?_
    refine x_get F hI 0 (by decide) rfl flX1_9 dX1_homeOf_29 ?_
    refine lv_iload hx hb dX1_homeOf_32 (lv_at hl 1 rfl) ?_
    refine x_zald F hI 0 (show k < 4 by omega) rfl dX1_homeOf_34 ?_
    refine lv_if_eq (tgt := 50) hx hb dX1_homeOf_35 (by decide) (fun c35 => ?_) (fun c35 => ?_)
    ·
      refine lv_iinc (v := nI (k + 1)) (lv' := [(4, .int _), (5, .int _), (3, .int _), (2, .int _), (0, .ref _), (1, .int _)]) hx hb dX1_homeOf_50 hl (k := 1) rfl (kinc _ 1) (by decide) rfl (fun ls hl => ?_)
      refine lv_goto (tgt := 8) hx hb dX1_homeOf_53 (by decide) ?_
      exact ih (f, k + 1, b, t) _ _ _ (by show f < f + 1; omega) ⟨by show k + 1 + f = 4; omega, by rw [← he]; simp [hmL, x_up, c35], hI, lv_sub hl [0, 2, 3, 4, 5] rfl⟩
    ·
      refine lv_iload hx hb dX1_homeOf_38 (lv_at hl 0 rfl) ?_
      refine lv_iload_n hx hb dX1_homeOf_40 rfl (lv_at hl 2 rfl) ?_
      refine lv_icmp_le (tgt := 50) hx hb dX1_homeOf_41 (by decide) (fun c41 => ?_) (fun c41 => ?_)
      ·
        refine lv_iinc (v := nI (k + 1)) (lv' := [(4, .int _), (5, .int _), (3, .int _), (2, .int _), (0, .ref _), (1, .int _)]) hx hb dX1_homeOf_50 hl (k := 1) rfl (kinc _ 1) (by decide) rfl (fun ls hl => ?_)
        refine lv_goto (tgt := 8) hx hb dX1_homeOf_53 (by decide) ?_
        exact ih (f, k + 1, b, t) _ _ _ (by show f < f + 1; omega) ⟨by show k + 1 + f = 4; omega, by rw [← he]; simp [hmL, x_up, c35, c41], hI, lv_sub hl [0, 2, 3, 4, 5] rfl⟩
      ·
        refine lv_iload hx hb dX1_homeOf_44 (lv_at hl 1 rfl) ?_
        refine lv_istore_n (lv' := [(2, .int _), (5, .int _), (4, .int _), (3, .int _), (0, .ref _), (1, .int _)]) hx hb dX1_homeOf_46 rfl hl (by decide) rfl (fun ls hl => ?_)
        refine lv_iload hx hb dX1_homeOf_47 (lv_at hl 1 rfl) ?_
        refine lv_istore_n (lv' := [(3, .int _), (2, .int _), (5, .int _), (4, .int _), (0, .ref _), (1, .int _)]) hx hb dX1_homeOf_49 rfl hl (by decide) rfl (fun ls hl => ?_)
        refine lv_iinc (v := nI (k + 1)) (lv' := [(4, .int _), (3, .int _), (2, .int _), (5, .int _), (0, .ref _), (1, .int _)]) hx hb dX1_homeOf_50 hl (k := 3) rfl (kinc _ 1) (by decide) rfl (fun ls hl => ?_)
        refine lv_goto (tgt := 8) hx hb dX1_homeOf_53 (by decide) ?_
        exact ih (f, k + 1, nI k, nI ((7 * n + 5 * k) % 11)) _ _ _ (by show f < f + 1; omega) ⟨by show k + 1 + f = 4; omega, by rw [← he]; simp [hmL, x_up, c35, c41], hI, lv_sub hl [0, 1, 2, 4, 5] rfl⟩
theorem xc_stop (st : XS) (a n : Nat) (ha : a ∈ st.2.2.2.1) (hn : n < 100) (h0 : cf st a 0 = nI n) : kM l yX1_stopWaiting cX1_stopWaiting 2 none 0 0 0 0 D (xty K) (xw g K) [.ref (g 0), .ref a] st (fun v u => v = none ∧ u = x_stop st n) := by
  refine kM_intro (by decide) (Nat.le_of_ble_eq_true rfl) ?_
  intro p e s m below meth c A ls F hA hI hl
  obtain ⟨hx, hb, hr, hml, hown, hts, hlk, hK, hnm⟩ := id F
  have hl : lv_has ls 2 [(0, .ref (g 0)), (1, .ref a)] := hl
  refine lv_aload_n hx hb dX1_stopWaiting_0 rfl (lv_at hl 0 rfl) ?_
  refine x_get F hI 5 (by decide) rfl flX1_38 dX1_stopWaiting_1 ?_
  refine lv_aload_n hx hb dX1_stopWaiting_4 rfl (lv_at hl 1 rfl) ?_
  refine x_cget F hI ha 0 (by decide) rfl flX1_131 dX1_stopWaiting_5 ?_
  refine ktop (y := nI (n)) (by exact h0) ?_
  refine lv_null hx hb dX1_stopWaiting_8 ?_
  refine x_rstN F hI 0 (show (n) < 100 by omega) rfl dX1_stopWaiting_9 (fun H locs hI => ?_)
  refine lv_aload_n hx hb dX1_stopWaiting_10 rfl (lv_at hl 0 rfl) ?_
  refine x_get F hI 2 (by decide) rfl flX1_25 dX1_stopWaiting_11 ?_
  refine lv_iconst (v := nI 1) hx hb dX1_stopWaiting_14 (by decide) ?_
  refine lv_dup2_11 hx hb dX1_stopWaiting_15 rfl rfl ?_
  refine x_ald F hI 2 (show 1 < 13 by omega) rfl dX1_stopWaiting_16 ?_
  refine lv_iconst (v := nI 1) hx hb dX1_stopWaiting_17 (by decide) ?_
  refine lv_isub hx hb dX1_stopWaiting_18 ?_
  refine x_ast F hI 2 (show 1 < 13 by omega) rfl dX1_stopWaiting_19 (fun H locs hI => ?_)
  exact kret_v F hI dX1_stopWaiting_20 (⟨rfl, rfl⟩)
theorem xc_counted (st : XS) (i : Nat) (r : Int32) (hi : i < 13) : kM l yX1_counted cX1_counted 3 (some .int) 0 0 0 0 D (xty K) (xw g K) [.ref (g 0), .int (nI i), .int r] st (fun v u => v = some (.int r) ∧ u = xinc st 2 i) := by
  refine kM_intro (by decide) (Nat.le_of_ble_eq_true rfl) ?_
  intro p e s m below meth c A ls F hA hI hl
  obtain ⟨hx, hb, hr, hml, hown, hts, hlk, hK, hnm⟩ := id F
  have hl : lv_has ls 3 [(0, .ref (g 0)), (1, .int (nI i)), (2, .int r)] := hl
  refine lv_aload_n hx hb dX1_counted_0 rfl (lv_at hl 0 rfl) ?_
  refine x_get F hI 2 (by decide) rfl flX1_25 dX1_counted_1 ?_
  refine lv_iload_n hx hb dX1_counted_4 rfl (lv_at hl 1 rfl) ?_
  refine lv_dup2_11 hx hb dX1_counted_5 rfl rfl ?_
  refine x_ald F hI 2 (show i < 13 by omega) rfl dX1_counted_6 ?_
  refine lv_iconst (v := nI 1) hx hb dX1_counted_7 (by decide) ?_
  refine lv_iadd hx hb dX1_counted_8 ?_
  refine x_ast F hI 2 (show i < 13 by omega) rfl dX1_counted_9 (fun H locs hI => ?_)
  refine lv_iload_n hx hb dX1_counted_10 rfl (lv_at hl 2 rfl) ?_
  exact kret_i F hI dX1_counted_11 (⟨rfl, rfl⟩)
theorem xc_stepOf (st : XS) (z : Nat) (hz : z < 8192) : kM l yX1_stepOf cX1_stepOf 2 (some .int) 0 0 0 0 D (xty K) (xw g K) [.int (nI z)] st (fun v u => v = some (.int (nI (stp z))) ∧ u = st) := by
  refine kM_intro (by decide) (Nat.le_of_ble_eq_true rfl) ?_
  intro p e s m below meth c A ls F hA hI hl
  obtain ⟨hx, hb, hr, hml, hown, hts, hlk, hK, hnm⟩ := id F
  have hl : lv_has ls 2 [(0, .int (nI z))] := hl
  refine lv_iconst (v := nI 0) hx hb dX1_stepOf_0 (by decide) ?_
  refine lv_istore_n (lv' := [(1, .int _), (0, .int _)]) hx hb dX1_stepOf_1 rfl hl (by decide) rfl (fun ls hl => ?_)
  refine wloop (σ := Nat × Nat) (fun x => x.1) (fun x H locs ls => x.2 + x.1 = 13 ∧ stpL z x.1 x.2 = stp z ∧ kI D (xw g K) A s.heap st H locs ∧ lv_has ls 2 [(1, .int (nI x.2)), (0, .int (nI z))]) ?_ (13, 0) _ _ _ ⟨rfl, rfl, hI, lv_sub hl [0, 1] rfl⟩
  rintro ⟨f, j⟩ H locs ls ⟨hk, he, hI, hl⟩ ih
  dsimp only at hk he hI hl ih
  have h2j : 2 ^ j ≤ 8192 := Nat.pow_le_pow_right (n := 2) (by decide) (show j ≤ 13 by omega)
  refine lv_iload_n hx hb dX1_stepOf_2 rfl (lv_at hl 0 rfl) ?_
  refine lv_bipush (v := nI 13) hx hb dX1_stepOf_3 (by decide) ?_
  refine lv_icmp_ge (tgt := 21) hx hb dX1_stepOf_5 (by decide) (fun c5 => ?_) (fun c5 => ?_)
  ·
    rw [nI_leI (by omega) (by omega)] at c5
    obtain rfl : f = 0 := by omega
    have hj : j = stp z := he
    refine lv_iload_n hx hb dX1_stepOf_21 rfl (lv_at hl 0 rfl) ?_
    exact kret_i F hI dX1_stepOf_22 (⟨by rw [hj], rfl⟩)
  ·
    rw [nI_leI (by omega) (by omega)] at c5
    obtain ⟨f, rfl⟩ : ∃ f', f = f' + 1 := ⟨f - 1, by omega⟩
    refine lv_iload_n hx hb dX1_stepOf_8 rfl (lv_at hl 1 rfl) ?_
    refine lv_iconst (v := nI 1) hx hb dX1_stepOf_9 (by decide) ?_
    refine lv_iload_n hx hb dX1_stepOf_10 rfl (lv_at hl 0 rfl) ?_
    refine lv_ishl hx hb dX1_stepOf_11 ?_
    refine ktop (y := nI (2 ^ j)) (by exact sh1 j (by omega)) ?_
    refine lv_icmp_lt (tgt := 21) hx hb dX1_stepOf_12 (by decide) (fun c12 => ?_) (fun c12 => ?_)
    ·
      rw [nI_ltI (by omega) (by omega)] at c12
      have hj : j = stp z := by rw [← he]; simp [stpL, c12]
      refine lv_iload_n hx hb dX1_stepOf_21 rfl (lv_at hl 0 rfl) ?_
      exact kret_i F hI dX1_stepOf_22 (⟨by rw [hj], rfl⟩)
    ·
      rw [nI_ltI (by omega) (by omega)] at c12
      refine lv_iinc (v := nI (j + 1)) (lv' := [(1, .int _), (0, .int _)]) hx hb dX1_stepOf_15 hl (k := 0) rfl (kinc _ 1) (by decide) rfl (fun ls hl => ?_)
      refine lv_goto (tgt := 2) hx hb dX1_stepOf_18 (by decide) ?_
      exact ih (f, j + 1) _ _ _ (by show f < f + 1; omega) ⟨by show j + 1 + f = _; omega, by rw [← he]; simp [stpL, c12], hI, lv_sub hl [0, 1] rfl⟩
end XC1
end
section
/-! the class: weighing, keeping, deciding -/
def x_fairS (st : XS) (sh : Nat) : Int32 × XS :=
  let s1 := xinc (xmk st (st.2.2.1 + 1)) (4 + sh) 5
  if s1.1 1 0 ≤ s1.1 (4 + sh) 5 then ((xset s1 (4 + sh) 5 (nI 0)).1 1 0, xset s1 (4 + sh) 5 (nI 0)) else (nI 0, s1)
def x_longS (st : XS) (sh : Nat) (z : Int32) : Int32 × XS :=
  let s1 := xmk st (st.2.2.1 + 10)
  if z < s1.1 1 1 then x_fairS s1 sh else (nI 1, s1)
def x_rareS (st : XS) (sh : Nat) (z : Int32) : Int32 × XS :=
  let s1 := xmk st (st.2.2.1 + 100)
  if s1.1 1 2 ≤ s1.1 (4 + sh) 0 then x_longS s1 sh z else (nI 1, s1)
def x_tornS (st : XS) (sh : Nat) (z : Int32) : Int32 × XS :=
  let s1 := xmk st (st.2.2.1 + 1000)
  if s1.1 1 3 = 0 then (nI 0, xinc s1 (4 + sh) 4) else x_rareS s1 sh z
def x_weigh (st : XS) (sh : Nat) (z : Int32) (tn : Bool) : Int32 × XS := if tn = true then x_tornS st sh z else x_rareS st sh z
def x_keepS (st : XS) (a sh e : Nat) (w : Int32) : XS := if 20 ≤ e then xadd st (4 + sh) 3 w else xadd (xc (xinc (xrf st 2 e (some a)) 2 2) a 10 (nI 1)) (4 + sh) 1 w
def xcnow (st : XS) (a f : Nat) : XS := xc st a f (st.1 2 0)
def x_d1 (st : XS) (a n : Nat) (tn : Bool) : XS := xcnow (xc (xrf (x_stop st n) 1 n (some a)) a 9 (bI tn)) a 7
def x_tn (st : XS) (tn : Bool) : XS := if tn = true then xinc st 2 11 else st
def x_d2 (st : XS) (sh z : Nat) (tn : Bool) : XS := x_tn (xinc (xinc (xinc st (4 + sh) 0) 3 (stp z)) 2 10) tn
def x_fin (s9 : XS) (a sh e : Nat) (w : Int32) : XS := if w ≤ 0 then s9 else x_keepS s9 a sh e w
def x_decS (st : XS) (a n sh z : Nat) (tn : Bool) (e : Nat) : XS := x_fin (x_d2 (xc (x_weigh (x_d1 st a n tn) sh (nI z) tn).2 a 8 (x_weigh (x_d1 st a n tn) sh (nI z) tn).1) sh z tn) a sh e (x_weigh (x_d1 st a n tn) sh (nI z) tn).1
theorem cf_ne {st : XS} {a b f f' : Nat} {v : Int32} (h : f' ≠ f) : cf (xc st a f v) b f' = cf st b f' := by
  by_cases e : b = a
  · subst e
    simp [cf, xc, va_up, upd, h]
  · simp [cf, xc, va_up, e]
theorem cf_eq {st : XS} {a f : Nat} {v : Int32} : cf (xc st a f v) a f = v := by simp [cf, xc, va_up, upd]
theorem cf_b {st : XS} {a b f f' : Nat} {v : Int32} (h : b ≠ a) : cf (xc st a f v) b f' = cf st b f' := by simp [cf, xc, va_up, h]
theorem xset_s {st : XS} {k i : Nat} {v : Int32} : (xset st k i v).1 k i = v := by simp [xset, va_up, upd]
theorem xset_k {st : XS} {k j i : Nat} {v : Int32} (h : j ≠ k) : (xset st k i v).1 j = st.1 j := by simp [xset, va_up, h]
theorem xset_a {st : XS} {k i : Nat} {v : Int32} : (xset st k i v).1 k = upd (st.1 k) i v := by simp [xset, va_up]
/-- what the weighing leaves as it is -/
def x_only (st u : XS) : Prop := u.2.1 = st.2.1 ∧ u.2.2.2 = st.2.2.2 ∧ ∀ k, k < 4 → u.1 k = st.1 k
theorem x_only_rf (st : XS) : x_only st st := ⟨rfl, rfl, fun _ _ => rfl⟩
theorem x_only_mk {st u : XS} {v : Int64} (h : x_only st u) : x_only st (xmk u v) := h
theorem x_only_set {st u : XS} {sh i : Nat} {v : Int32} (h : x_only st u) : x_only st (xset u (4 + sh) i v) := ⟨h.1, h.2.1, fun k hk => (xset_k (by omega)).trans (h.2.2 k hk)⟩
theorem x_only_fair {st u : XS} (sh : Nat) (h : x_only st u) : x_only st (x_fairS u sh).2 := by
  unfold x_fairS
  dsimp only
  split
  · exact x_only_set (x_only_set (x_only_mk h))
  · exact x_only_set (x_only_mk h)
theorem x_only_long {st u : XS} (sh : Nat) (z : Int32) (h : x_only st u) : x_only st (x_longS u sh z).2 := by
  unfold x_longS
  dsimp only
  split
  · exact x_only_fair sh (x_only_mk h)
  · exact x_only_mk h
theorem x_only_rare {st u : XS} (sh : Nat) (z : Int32) (h : x_only st u) : x_only st (x_rareS u sh z).2 := by
  unfold x_rareS
  dsimp only
  split
  · exact x_only_long sh z (x_only_mk h)
  · exact x_only_mk h
theorem x_only_torn {st u : XS} (sh : Nat) (z : Int32) (h : x_only st u) : x_only st (x_tornS u sh z).2 := by
  unfold x_tornS
  dsimp only
  split
  · exact x_only_set (x_only_mk h)
  · exact x_only_rare sh z (x_only_mk h)
theorem x_only_weigh (st : XS) (sh : Nat) (z : Int32) (tn : Bool) : x_only st (x_weigh st sh z tn).2 := by
  unfold x_weigh
  split
  · exact x_only_torn sh z (x_only_rf st)
  · exact x_only_rare sh z (x_only_rf st)
section XC2
variable (l : Launch) {D : va_G} {g : Nat → Nat} {K : Nat → ClassId}
theorem xc_fair (st : XS) (a sh : Nat) (ha : a ∈ st.2.2.2.1) (hs : sh < 5) (h1 : cf st a 1 = nI sh) : kM l yX1_weighFair cX1_weighFair 3 (some .int) 0 0 0 0 D (xty K) (xw g K) [.ref (g 0), .ref a] st (fun v u => v = some (.int (x_fairS st sh).1) ∧ u = (x_fairS st sh).2) := by
  refine kM_intro (by decide) (Nat.le_of_ble_eq_true rfl) ?_
  intro p e s m below meth c A ls F hA hI hl
  obtain ⟨hx, hb, hr, hml, hown, hts, hlk, hK, hnm⟩ := id F
  have hl : lv_has ls 3 [(0, .ref (g 0)), (1, .ref a)] := hl
  refine lv_aload_n hx hb dX1_weighFair_0 rfl (lv_at hl 0 rfl) ?_
  refine lv_dup hx hb dX1_weighFair_1 rfl ?_
  refine x_get F hI 8 (by decide) rfl flX1_48 dX1_weighFair_2 ?_
  refine lv_lconst (v := 1) hx hb dX1_weighFair_5 (by decide) ?_
  refine lv_ladd hx hb dX1_weighFair_6 ?_
  refine x_putMk F hI flX1_48 dX1_weighFair_7 (fun H locs hI => ?_)
  have hI : kI D _ A s.heap (xmk st (st.2.2.1 + 1)) H locs := hI
  generalize hS7 : xmk st (st.2.2.1 + 1) = S7 at hI
  have ha : a ∈ S7.2.2.2.1 := by rw [← hS7]; exact ha
  have h1 : cf S7 a 1 = nI sh := by rw [← hS7]; exact h1
  refine lv_aload_n hx hb dX1_weighFair_10 rfl (lv_at hl 0 rfl) ?_
  refine x_get F hI 3 (by decide) rfl flX1_30 dX1_weighFair_11 ?_
  refine lv_aload_n hx hb dX1_weighFair_14 rfl (lv_at hl 1 rfl) ?_
  refine x_cget F hI ha 1 (by decide) rfl flX1_112 dX1_weighFair_15 ?_
  refine ktop (y := nI (sh)) (by exact h1) ?_
  refine x_tal F hI (s' := (sh)) (by omega) rfl dX1_weighFair_18 ?_
  refine lv_astore_n (lv' := [(2, .ref _), (0, .ref _), (1, .ref _)]) hx hb dX1_weighFair_19 rfl hl (by decide) rfl (fun ls hl => ?_)
  refine lv_aload_n hx hb dX1_weighFair_20 rfl (lv_at hl 0 rfl) ?_
  refine lv_iconst (v := nI 5) hx hb dX1_weighFair_21 (by decide) ?_
  refine lv_dup2_11 hx hb dX1_weighFair_22 rfl rfl ?_
  refine x_tald F hI (s' := (sh)) (by omega) (show 5 < 7 by omega) rfl dX1_weighFair_23 ?_
  refine lv_iconst (v := nI 1) hx hb dX1_weighFair_24 (by decide) ?_
  refine lv_iadd hx hb dX1_weighFair_25 ?_
  refine x_tast F hI (s' := (sh)) (by omega) (show 5 < 7 by omega) rfl dX1_weighFair_26 (fun H locs hI => ?_)
  have hI : kI D _ A s.heap (xinc S7 (4 + sh) 5) H locs := hI
  generalize hS26 : xinc S7 (4 + sh) 5 = S26 at hI
  refine lv_aload_n hx hb dX1_weighFair_27 rfl (lv_at hl 0 rfl) ?_
  refine lv_iconst (v := nI 5) hx hb dX1_weighFair_28 (by decide) ?_
  refine x_tald F hI (s' := (sh)) (by omega) (show 5 < 7 by omega) rfl dX1_weighFair_29 ?_
  refine lv_aload_n hx hb dX1_weighFair_30 rfl (lv_at hl 1 rfl) ?_
  refine x_get F hI 1 (by decide) rfl flX1_22 dX1_weighFair_31 ?_
  refine lv_iconst (v := nI 0) hx hb dX1_weighFair_34 (by decide) ?_
  refine x_ald F hI 1 (show 0 < 6 by omega) rfl dX1_weighFair_35 ?_
  refine lv_icmp_ge (tgt := 41) hx hb dX1_weighFair_36 (by decide) (fun c36 => ?_) (fun c36 => ?_)
  ·
    refine lv_aload_n hx hb dX1_weighFair_41 rfl (lv_at hl 0 rfl) ?_
    refine lv_iconst (v := nI 5) hx hb dX1_weighFair_42 (by decide) ?_
    refine lv_iconst (v := nI 0) hx hb dX1_weighFair_43 (by decide) ?_
    refine x_tast F hI (s' := (sh)) (by omega) (show 5 < 7 by omega) rfl dX1_weighFair_44 (fun H locs hI => ?_)
    refine lv_aload_n hx hb dX1_weighFair_45 rfl (lv_at hl 1 rfl) ?_
    refine x_get F hI 1 (by decide) rfl flX1_22 dX1_weighFair_46 ?_
    refine lv_iconst (v := nI 0) hx hb dX1_weighFair_49 (by decide) ?_
    refine x_ald F hI 1 (show 0 < 6 by omega) rfl dX1_weighFair_50 ?_
    exact kret_i F hI dX1_weighFair_51 (⟨by simp only [x_fairS]; rw [hS7, hS26, if_pos c36], by simp only [x_fairS]; rw [hS7, hS26, if_pos c36]⟩)
  ·
    refine lv_iconst (v := nI 0) hx hb dX1_weighFair_39 (by decide) ?_
    exact kret_i F hI dX1_weighFair_40 (⟨by simp only [x_fairS]; rw [hS7, hS26, if_neg c36], by simp only [x_fairS]; rw [hS7, hS26, if_neg c36]⟩)
theorem xc_long (st : XS) (a sh : Nat) (z : Int32) (ha : a ∈ st.2.2.2.1) (hs : sh < 5) (h1 : cf st a 1 = nI sh) (h5 : cf st a 5 = z) : kM l yX1_weighLong cX1_weighLong 2 (some .int) 1 22 0 0 D (xty K) (xw g K) [.ref (g 0), .ref a] st (fun v u => v = some (.int (x_longS st sh z).1) ∧ u = (x_longS st sh z).2) := by
  refine kM_intro (by decide) (Nat.le_of_ble_eq_true rfl) ?_
  intro p e s m below meth c A ls F hA hI hl
  obtain ⟨hx, hb, hr, hml, hown, hts, hlk, hK, hnm⟩ := id F
  have hl : lv_has ls 2 [(0, .ref (g 0)), (1, .ref a)] := hl
  refine lv_aload_n hx hb dX1_weighLong_0 rfl (lv_at hl 0 rfl) ?_
  refine lv_dup hx hb dX1_weighLong_1 rfl ?_
  refine x_get F hI 8 (by decide) rfl flX1_48 dX1_weighLong_2 ?_
  refine lv_ldc2 (v := 10) hx hb hown (hts _ clX1_196) dX1_weighLong_5 ?_
  refine lv_ladd hx hb dX1_weighLong_8 ?_
  refine x_putMk F hI flX1_48 dX1_weighLong_9 (fun H locs hI => ?_)
  refine lv_aload_n hx hb dX1_weighLong_12 rfl (lv_at hl 1 rfl) ?_
  refine x_cget F hI ha 5 (by decide) rfl flX1_115 dX1_weighLong_13 ?_
  refine ktop (y := z) (by exact h5) ?_
  refine lv_aload_n hx hb dX1_weighLong_16 rfl (lv_at hl 0 rfl) ?_
  refine x_get F hI 1 (by decide) rfl flX1_22 dX1_weighLong_17 ?_
  refine lv_iconst (v := nI 1) hx hb dX1_weighLong_20 (by decide) ?_
  refine x_ald F hI 1 (show 1 < 6 by omega) rfl dX1_weighLong_21 ?_
  refine lv_icmp_lt (tgt := 29) hx hb dX1_weighLong_22 (by decide) (fun c22 => ?_) (fun c22 => ?_)
  ·
    refine lv_aload_n hx hb dX1_weighLong_29 rfl (lv_at hl 0 rfl) ?_
    refine lv_aload_n hx hb dX1_weighLong_30 rfl (lv_at hl 1 rfl) ?_
    refine kcallV (rest := []) F hA hI (xc_fair l _ a sh ha hs h1) kgX1_198 (x_rec F hI) hl.1 rfl rfl (Nat.le_of_ble_eq_true rfl) dX1_weighLong_31 ⟨Nat.le_of_ble_eq_true rfl, Nat.le_of_ble_eq_true rfl⟩ ⟨Nat.le_of_ble_eq_true rfl, Nat.le_of_ble_eq_true rfl⟩ (fun vq uq H locs hp hI => ?_)
    obtain ⟨rfl, hu⟩ := hp
    rw [hu] at hI
    clear hu
    refine kstk (b := .int _ :: []) rfl ?_
    exact kret_i F hI dX1_weighLong_34 (⟨by simp only [x_longS]; rw [if_pos c22], by simp only [x_longS]; rw [if_pos c22]⟩)
  ·
    refine lv_iconst (v := nI 1) hx hb dX1_weighLong_25 (by decide) ?_
    refine lv_goto (tgt := 34) hx hb dX1_weighLong_26 (by decide) ?_
    exact kret_i F hI dX1_weighLong_34 (⟨by simp only [x_longS]; rw [if_neg c22], by simp only [x_longS]; rw [if_neg c22]⟩)
theorem xc_rare (st : XS) (a sh : Nat) (z : Int32) (ha : a ∈ st.2.2.2.1) (hs : sh < 5) (h1 : cf st a 1 = nI sh) (h5 : cf st a 5 = z) : kM l yX1_weighRare cX1_weighRare 2 (some .int) 2 43 0 0 D (xty K) (xw g K) [.ref (g 0), .ref a] st (fun v u => v = some (.int (x_rareS st sh z).1) ∧ u = (x_rareS st sh z).2) := by
  refine kM_intro (by decide) (Nat.le_of_ble_eq_true rfl) ?_
  intro p e s m below meth c A ls F hA hI hl
  obtain ⟨hx, hb, hr, hml, hown, hts, hlk, hK, hnm⟩ := id F
  have hl : lv_has ls 2 [(0, .ref (g 0)), (1, .ref a)] := hl
  refine lv_aload_n hx hb dX1_weighRare_0 rfl (lv_at hl 0 rfl) ?_
  refine lv_dup hx hb dX1_weighRare_1 rfl ?_
  refine x_get F hI 8 (by decide) rfl flX1_48 dX1_weighRare_2 ?_
  refine lv_ldc2 (v := 100) hx hb hown (hts _ clX1_191) dX1_weighRare_5 ?_
  refine lv_ladd hx hb dX1_weighRare_8 ?_
  refine x_putMk F hI flX1_48 dX1_weighRare_9 (fun H locs hI => ?_)
  refine lv_aload_n hx hb dX1_weighRare_12 rfl (lv_at hl 0 rfl) ?_
  refine x_get F hI 3 (by decide) rfl flX1_30 dX1_weighRare_13 ?_
  refine lv_aload_n hx hb dX1_weighRare_16 rfl (lv_at hl 1 rfl) ?_
  refine x_cget F hI ha 1 (by decide) rfl flX1_112 dX1_weighRare_17 ?_
  refine ktop (y := nI (sh)) (by exact h1) ?_
  refine x_tal F hI (s' := (sh)) (by omega) rfl dX1_weighRare_20 ?_
  refine lv_iconst (v := nI 0) hx hb dX1_weighRare_21 (by decide) ?_
  refine x_tald F hI (s' := (sh)) (by omega) (show 0 < 7 by omega) rfl dX1_weighRare_22 ?_
  refine lv_aload_n hx hb dX1_weighRare_23 rfl (lv_at hl 0 rfl) ?_
  refine x_get F hI 1 (by decide) rfl flX1_22 dX1_weighRare_24 ?_
  refine lv_iconst (v := nI 2) hx hb dX1_weighRare_27 (by decide) ?_
  refine x_ald F hI 1 (show 2 < 6 by omega) rfl dX1_weighRare_28 ?_
  refine lv_icmp_ge (tgt := 36) hx hb dX1_weighRare_29 (by decide) (fun c29 => ?_) (fun c29 => ?_)
  ·
    refine lv_aload_n hx hb dX1_weighRare_36 rfl (lv_at hl 0 rfl) ?_
    refine lv_aload_n hx hb dX1_weighRare_37 rfl (lv_at hl 1 rfl) ?_
    refine kcallV (rest := []) F hA hI (xc_long l _ a sh z ha hs h1 h5) kgX1_193 (x_rec F hI) hl.1 rfl rfl (Nat.le_of_ble_eq_true rfl) dX1_weighRare_38 ⟨Nat.le_of_ble_eq_true rfl, Nat.le_of_ble_eq_true rfl⟩ ⟨Nat.le_of_ble_eq_true rfl, Nat.le_of_ble_eq_true rfl⟩ (fun vq uq H locs hp hI => ?_)
    obtain ⟨rfl, hu⟩ := hp
    rw [hu] at hI
    clear hu
    refine kstk (b := .int _ :: []) rfl ?_
    exact kret_i F hI dX1_weighRare_41 (⟨by simp only [x_rareS]; rw [if_pos c29], by simp only [x_rareS]; rw [if_pos c29]⟩)
  ·
    refine lv_iconst (v := nI 1) hx hb dX1_weighRare_32 (by decide) ?_
    refine lv_goto (tgt := 41) hx hb dX1_weighRare_33 (by decide) ?_
    exact kret_i F hI dX1_weighRare_41 (⟨by simp only [x_rareS]; rw [if_neg c29], by simp only [x_rareS]; rw [if_neg c29]⟩)
theorem xc_torn (st : XS) (a sh : Nat) (z : Int32) (ha : a ∈ st.2.2.2.1) (hs : sh < 5) (h1 : cf st a 1 = nI sh) (h5 : cf st a 5 = z) : kM l yX1_weighTorn cX1_weighTorn 2 (some .int) 3 64 0 0 D (xty K) (xw g K) [.ref (g 0), .ref a] st (fun v u => v = some (.int (x_tornS st sh z).1) ∧ u = (x_tornS st sh z).2) := by
  refine kM_intro (by decide) (Nat.le_of_ble_eq_true rfl) ?_
  intro p e s m below meth c A ls F hA hI hl
  obtain ⟨hx, hb, hr, hml, hown, hts, hlk, hK, hnm⟩ := id F
  have hl : lv_has ls 2 [(0, .ref (g 0)), (1, .ref a)] := hl
  refine lv_aload_n hx hb dX1_weighTorn_0 rfl (lv_at hl 0 rfl) ?_
  refine lv_dup hx hb dX1_weighTorn_1 rfl ?_
  refine x_get F hI 8 (by decide) rfl flX1_48 dX1_weighTorn_2 ?_
  refine lv_ldc2 (v := 1000) hx hb hown (hts _ clX1_189) dX1_weighTorn_5 ?_
  refine lv_ladd hx hb dX1_weighTorn_8 ?_
  refine x_putMk F hI flX1_48 dX1_weighTorn_9 (fun H locs hI => ?_)
  refine lv_aload_n hx hb dX1_weighTorn_12 rfl (lv_at hl 0 rfl) ?_
  refine x_get F hI 1 (by decide) rfl flX1_22 dX1_weighTorn_13 ?_
  refine lv_iconst (v := nI 3) hx hb dX1_weighTorn_16 (by decide) ?_
  refine x_ald F hI 1 (show 3 < 6 by omega) rfl dX1_weighTorn_17 ?_
  refine lv_if_ne (tgt := 38) hx hb dX1_weighTorn_18 (by decide) (fun c18 => ?_) (fun c18 => ?_)
  ·
    refine lv_aload_n hx hb dX1_weighTorn_38 rfl (lv_at hl 0 rfl) ?_
    refine lv_aload_n hx hb dX1_weighTorn_39 rfl (lv_at hl 1 rfl) ?_
    refine kcallV (rest := []) F hA hI (xc_rare l _ a sh z ha hs h1 h5) kgX1_180 (x_rec F hI) hl.1 rfl rfl (Nat.le_of_ble_eq_true rfl) dX1_weighTorn_40 ⟨Nat.le_of_ble_eq_true rfl, Nat.le_of_ble_eq_true rfl⟩ ⟨Nat.le_of_ble_eq_true rfl, Nat.le_of_ble_eq_true rfl⟩ (fun vq uq H locs hp hI => ?_)
    obtain ⟨rfl, hu⟩ := hp
    rw [hu] at hI
    clear hu
    refine kstk (b := .int _ :: []) rfl ?_
    exact kret_i F hI dX1_weighTorn_43 (⟨by simp only [x_tornS]; rw [if_neg c18], by simp only [x_tornS]; rw [if_neg c18]⟩)
  ·
    refine lv_aload_n hx hb dX1_weighTorn_21 rfl (lv_at hl 0 rfl) ?_
    refine x_get F hI 3 (by decide) rfl flX1_30 dX1_weighTorn_22 ?_
    refine lv_aload_n hx hb dX1_weighTorn_25 rfl (lv_at hl 1 rfl) ?_
    refine x_cget F hI ha 1 (by decide) rfl flX1_112 dX1_weighTorn_26 ?_
    refine ktop (y := nI (sh)) (by exact h1) ?_
    refine x_tal F hI (s' := (sh)) (by omega) rfl dX1_weighTorn_29 ?_
    refine lv_iconst (v := nI 4) hx hb dX1_weighTorn_30 (by decide) ?_
    refine lv_dup2_11 hx hb dX1_weighTorn_31 rfl rfl ?_
    refine x_tald F hI (s' := (sh)) (by omega) (show 4 < 7 by omega) rfl dX1_weighTorn_32 ?_
    refine lv_iconst (v := nI 1) hx hb dX1_weighTorn_33 (by decide) ?_
    refine lv_iadd hx hb dX1_weighTorn_34 ?_
    refine x_tast F hI (s' := (sh)) (by omega) (show 4 < 7 by omega) rfl dX1_weighTorn_35 (fun H locs hI => ?_)
    refine lv_iconst (v := nI 0) hx hb dX1_weighTorn_36 (by decide) ?_
    exact kret_i F hI dX1_weighTorn_37 (⟨by simp only [x_tornS]; rw [if_pos c18], by simp only [x_tornS, xinc]; rw [if_pos c18]⟩)
theorem xc_keep (st : XS) (a sh e' : Nat) (w : Int32) (ha : a ∈ st.2.2.2.1) (hs : sh < 5) (he : e' ≤ 20) (h1 : cf st a 1 = nI sh) (h8 : cf st a 8 = w) (h2 : st.1 2 2 = nI e') : kM l yX1_keepOrLetFall cX1_keepOrLetFall 3 none 0 0 0 0 D (xty K) (xw g K) [.ref (g 0), .ref a] st (fun v u => v = none ∧ u = x_keepS st a sh e' w) := by
  refine kM_intro (by decide) (Nat.le_of_ble_eq_true rfl) ?_
  intro p e s m below meth c A ls F hA hI hl
  obtain ⟨hx, hb, hr, hml, hown, hts, hlk, hK, hnm⟩ := id F
  have hl : lv_has ls 3 [(0, .ref (g 0)), (1, .ref a)] := hl
  refine lv_aload_n hx hb dX1_keepOrLetFall_0 rfl (lv_at hl 0 rfl) ?_
  refine x_get F hI 2 (by decide) rfl flX1_25 dX1_keepOrLetFall_1 ?_
  refine lv_iconst (v := nI 2) hx hb dX1_keepOrLetFall_4 (by decide) ?_
  refine x_ald F hI 2 (show 2 < 13 by omega) rfl dX1_keepOrLetFall_5 ?_
  refine ktop (y := nI (e')) (by exact h2) ?_
  refine lv_istore_n (lv' := [(2, .int _), (0, .ref _), (1, .ref _)]) hx hb dX1_keepOrLetFall_6 rfl hl (by decide) rfl (fun ls hl => ?_)
  refine lv_iload_n hx hb dX1_keepOrLetFall_7 rfl (lv_at hl 0 rfl) ?_
  refine lv_bipush (v := nI 20) hx hb dX1_keepOrLetFall_8 (by decide) ?_
  refine lv_icmp_lt (tgt := 32) hx hb dX1_keepOrLetFall_10 (by decide) (fun c10 => ?_) (fun c10 => ?_)
  ·
    rw [nI_ltI (by omega) (by omega)] at c10
    refine lv_aload_n hx hb dX1_keepOrLetFall_32 rfl (lv_at hl 1 rfl) ?_
    refine x_get F hI 7 (by decide) rfl flX1_45 dX1_keepOrLetFall_33 ?_
    refine lv_iload_n hx hb dX1_keepOrLetFall_36 rfl (lv_at hl 0 rfl) ?_
    refine lv_aload_n hx hb dX1_keepOrLetFall_37 rfl (lv_at hl 2 rfl) ?_
    refine x_rst F hI ha 2 (show (e') < 20 by omega) rfl dX1_keepOrLetFall_38 (fun H locs hI => ?_)
    have hI : kI D _ A s.heap (xrf st 2 e' (some a)) H locs := hI
    generalize hS38 : xrf st 2 e' (some a) = S38 at hI
    have ha : a ∈ S38.2.2.2.1 := by rw [← hS38]; exact ha
    refine lv_aload_n hx hb dX1_keepOrLetFall_39 rfl (lv_at hl 1 rfl) ?_
    refine x_get F hI 2 (by decide) rfl flX1_25 dX1_keepOrLetFall_40 ?_
    refine lv_iconst (v := nI 2) hx hb dX1_keepOrLetFall_43 (by decide) ?_
    refine lv_dup2_11 hx hb dX1_keepOrLetFall_44 rfl rfl ?_
    refine x_ald F hI 2 (show 2 < 13 by omega) rfl dX1_keepOrLetFall_45 ?_
    refine lv_iconst (v := nI 1) hx hb dX1_keepOrLetFall_46 (by decide) ?_
    refine lv_iadd hx hb dX1_keepOrLetFall_47 ?_
    refine x_ast F hI 2 (show 2 < 13 by omega) rfl dX1_keepOrLetFall_48 (fun H locs hI => ?_)
    have hI : kI D _ A s.heap (xinc S38 2 2) H locs := hI
    generalize hS48 : xinc S38 2 2 = S48 at hI
    have ha : a ∈ S48.2.2.2.1 := by rw [← hS48]; exact ha
    refine lv_aload_n hx hb dX1_keepOrLetFall_49 rfl (lv_at hl 2 rfl) ?_
    refine lv_iconst (v := nI 1) hx hb dX1_keepOrLetFall_50 (by decide) ?_
    refine x_cput (ty := .boolean) F hI ha 10 (by decide) rfl flX1_124 (by decide +kernel) rfl rfl rfl dX1_keepOrLetFall_51 (fun H locs hI => ?_)
    have hI : kI D _ A s.heap (xc S48 a 10 (nI 1)) H locs := hI
    generalize hS51 : xc S48 a 10 (nI 1) = S51 at hI
    have ha : a ∈ S51.2.2.2.1 := by rw [← hS51]; exact ha
    have h1 : cf S51 a 1 = nI sh := by rw [← hS51, cf_ne (by decide), ← hS48, ← hS38]; exact h1
    have h8 : cf S51 a 8 = w := by rw [← hS51, cf_ne (by decide), ← hS48, ← hS38]; exact h8
    refine lv_aload_n hx hb dX1_keepOrLetFall_54 rfl (lv_at hl 1 rfl) ?_
    refine x_get F hI 3 (by decide) rfl flX1_30 dX1_keepOrLetFall_55 ?_
    refine lv_aload_n hx hb dX1_keepOrLetFall_58 rfl (lv_at hl 2 rfl) ?_
    refine x_cget F hI ha 1 (by decide) rfl flX1_112 dX1_keepOrLetFall_59 ?_
    refine ktop (y := nI (sh)) (by exact h1) ?_
    refine x_tal F hI (s' := (sh)) (by omega) rfl dX1_keepOrLetFall_62 ?_
    refine lv_iconst (v := nI 1) hx hb dX1_keepOrLetFall_63 (by decide) ?_
    refine lv_dup2_11 hx hb dX1_keepOrLetFall_64 rfl rfl ?_
    refine x_tald F hI (s' := (sh)) (by omega) (show 1 < 7 by omega) rfl dX1_keepOrLetFall_65 ?_
    refine lv_aload_n hx hb dX1_keepOrLetFall_66 rfl (lv_at hl 2 rfl) ?_
    refine x_cget F hI ha 8 (by decide) rfl flX1_134 dX1_keepOrLetFall_67 ?_
    refine ktop (y := w) (by exact h8) ?_
    refine lv_iadd hx hb dX1_keepOrLetFall_70 ?_
    refine x_tast F hI (s' := (sh)) (by omega) (show 1 < 7 by omega) rfl dX1_keepOrLetFall_71 (fun H locs hI => ?_)
    exact kret_v F hI dX1_keepOrLetFall_72 (⟨rfl, by rw [x_keepS, if_neg (by omega), hS38, hS48, hS51]; rfl⟩)
  ·
    rw [nI_ltI (by omega) (by omega)] at c10
    refine lv_aload_n hx hb dX1_keepOrLetFall_13 rfl (lv_at hl 1 rfl) ?_
    refine x_get F hI 3 (by decide) rfl flX1_30 dX1_keepOrLetFall_14 ?_
    refine lv_aload_n hx hb dX1_keepOrLetFall_17 rfl (lv_at hl 2 rfl) ?_
    refine x_cget F hI ha 1 (by decide) rfl flX1_112 dX1_keepOrLetFall_18 ?_
    refine ktop (y := nI (sh)) (by exact h1) ?_
    refine x_tal F hI (s' := (sh)) (by omega) rfl dX1_keepOrLetFall_21 ?_
    refine lv_iconst (v := nI 3) hx hb dX1_keepOrLetFall_22 (by decide) ?_
    refine lv_dup2_11 hx hb dX1_keepOrLetFall_23 rfl rfl ?_
    refine x_tald F hI (s' := (sh)) (by omega) (show 3 < 7 by omega) rfl dX1_keepOrLetFall_24 ?_
    refine lv_aload_n hx hb dX1_keepOrLetFall_25 rfl (lv_at hl 2 rfl) ?_
    refine x_cget F hI ha 8 (by decide) rfl flX1_134 dX1_keepOrLetFall_26 ?_
    refine ktop (y := w) (by exact h8) ?_
    refine lv_iadd hx hb dX1_keepOrLetFall_29 ?_
    refine x_tast F hI (s' := (sh)) (by omega) (show 3 < 7 by omega) rfl dX1_keepOrLetFall_30 (fun H locs hI => ?_)
    exact kret_v F hI dX1_keepOrLetFall_31 (⟨rfl, by rw [x_keepS, if_pos (by omega)]; rfl⟩)
theorem xc_decide (st : XS) (a n sh z e' : Nat) (tn : Bool) (ha : a ∈ st.2.2.2.1) (hn : n < 100) (hs : sh < 5) (hz : z < 8192) (he : e' ≤ 20) (h0 : cf st a 0 = nI n) (h1 : cf st a 1 = nI sh) (h5 : cf st a 5 = nI z) (h2 : st.1 2 2 = nI e') : kM l yX1_decide cX1_decide 3 none 4 85 0 0 D (xty K) (xw g K) [.ref (g 0), .ref a, .int (bI tn)] st (fun v u => v = none ∧ u = x_decS st a n sh z tn e') := by
  refine kM_intro (by decide) (Nat.le_of_ble_eq_true rfl) ?_
  intro p e s m below meth c A ls F hA hI hl
  obtain ⟨hx, hb, hr, hml, hown, hts, hlk, hK, hnm⟩ := id F
  have hl : lv_has ls 3 [(0, .ref (g 0)), (1, .ref a), (2, .int (bI tn))] := hl
  have hsl := stp_lt z
  generalize hS4 : x_d1 st a n tn = S4
  have ha4 : a ∈ S4.2.2.2.1 := by rw [← hS4]; exact ha
  have h14 : cf S4 a 1 = nI sh := by rw [← hS4, x_d1, xcnow, cf_ne (by decide), cf_ne (by decide)]; exact h1
  have h54 : cf S4 a 5 = nI z := by rw [← hS4, x_d1, xcnow, cf_ne (by decide), cf_ne (by decide)]; exact h5
  have h24 : S4.1 2 2 = nI e' := by rw [← hS4]; show (x_stop st n).1 2 2 = nI e'; rw [x_stop, xsub, xset_a, pk_un (by decide)]; exact h2
  generalize hw : x_weigh S4 sh (nI z) tn = w
  have hwo : x_only S4 w.2 := by rw [← hw]; exact x_only_weigh _ _ _ _
  have haw : a ∈ w.2.2.2.2.1 := by rw [hwo.2.1]; exact ha4
  have h1w : cf w.2 a 1 = nI sh := by unfold cf; rw [hwo.2.1]; exact h14
  have h5w : cf w.2 a 5 = nI z := by unfold cf; rw [hwo.2.1]; exact h54
  have h2w : w.2.1 2 2 = nI e' := by rw [hwo.2.2 2 (by decide)]; exact h24
  have hfin : x_decS st a n sh z tn e' = x_fin (x_d2 (xc w.2 a 8 w.1) sh z tn) a sh e' w.1 := by rw [x_decS, hS4, hw]
  have h108 : ∀ (u : XS) (H : Heap) (locs : List Loc) (ls : Array Slot), kI D (xw g K) A s.heap u H locs → u = x_d2 (xc w.2 a 8 w.1) sh z tn → lv_has ls 3 [(0, .ref (g 0)), (1, .ref a), (2, .int (bI tn))] → W p l e { frames := 4, cells := 0, slots := 0, locals := 85 } s m #[.ref (g 0), .ref a, .int (bI tn)] below meth c H locs 0 0 (MQ below (kQ D (xty K) (xw g K) (fun v u => v = none ∧ u = x_decS st a n sh z tn e') A) #[.ref (g 0), .ref a, .int (bI tn)] s 0 0 A) (F0 m 108 ls []) := by
    intro u H locs ls hI hu hl
    have huc : u.2 = (xc w.2 a 8 w.1).2 := by rw [hu, x_d2, x_tn]; split <;> rfl
    have hau : a ∈ u.2.2.2.1 := by rw [huc]; exact haw
    have hu8 : cf u a 8 = w.1 := by unfold cf; rw [huc]; exact cf_eq
    have hu1 : cf u a 1 = nI sh := by unfold cf; rw [huc]; exact (cf_ne (by decide)).trans h1w
    have hu2 : u.1 2 2 = nI e' := by
      have q : (xinc (xinc (xinc (xc w.2 a 8 w.1) (4 + sh) 0) 3 (stp z)) 2 10).1 2 2 = nI e' := by
        rw [xinc, xset_a, pk_un (by decide), xinc, xset_k (by decide), xinc, xset_k (by omega)]
        exact h2w
      rw [hu, x_d2, x_tn]
      split
      · rw [xinc, xset_a, pk_un (by decide)]; exact q
      · exact q
    refine lv_aload_n hx hb dX1_decide_108 rfl (lv_at hl 1 rfl) ?_
    refine x_cget F hI hau 8 (by decide) rfl flX1_134 dX1_decide_109 ?_
    refine ktop (y := w.1) (by exact hu8) ?_
    refine lv_if_le (tgt := 120) hx hb dX1_decide_112 (by decide) (fun c112 => ?_) (fun c112 => ?_)
    ·
      exact kret_v F hI dX1_decide_120 (⟨rfl, by rw [hfin, x_fin, if_pos c112, hu]⟩)
    ·
      refine lv_aload_n hx hb dX1_decide_115 rfl (lv_at hl 0 rfl) ?_
      refine lv_aload_n hx hb dX1_decide_116 rfl (lv_at hl 1 rfl) ?_
      refine kcallV (rest := []) F hA hI (xc_keep l _ a sh e' w.1 hau hs he hu1 hu8 hu2) kgX1_186 (x_rec F hI) hl.1 rfl rfl (Nat.le_of_ble_eq_true rfl) dX1_decide_117 ⟨Nat.le_of_ble_eq_true rfl, Nat.le_of_ble_eq_true rfl⟩ ⟨Nat.le_of_ble_eq_true rfl, Nat.le_of_ble_eq_true rfl⟩ (fun vq uq H locs hp hI => ?_)
      obtain ⟨rfl, hu⟩ := hp
      rw [hu] at hI
      clear hu
      refine kstk (b := []) rfl ?_
      exact kret_v F hI dX1_decide_120 (⟨rfl, by rw [hfin, x_fin, if_neg c112, hu]⟩)
  have h48 : ∀ (H : Heap) (locs : List Loc) (ls : Array Slot), kI D (xw g K) A s.heap w.2 H locs → lv_has ls 3 [(0, .ref (g 0)), (1, .ref a), (2, .int (bI tn))] → W p l e { frames := 4, cells := 0, slots := 0, locals := 85 } s m #[.ref (g 0), .ref a, .int (bI tn)] below meth c H locs 0 0 (MQ below (kQ D (xty K) (xw g K) (fun v u => v = none ∧ u = x_decS st a n sh z tn e') A) #[.ref (g 0), .ref a, .int (bI tn)] s 0 0 A) (F0 m 48 ls [.int w.1, .ref a]) := by
    intro H locs ls hI hl
    refine x_cput (ty := .int) F hI haw 8 (by decide) rfl flX1_134 (by decide +kernel) rfl rfl rfl dX1_decide_48 (fun H locs hI => ?_)
    have hI : kI D _ A s.heap (xc w.2 a 8 w.1) H locs := hI
    generalize hS48 : xc w.2 a 8 w.1 = S48 at hI
    have ha8 : a ∈ S48.2.2.2.1 := by rw [← hS48]; exact haw
    have h18 : cf S48 a 1 = nI sh := by rw [← hS48, cf_ne (by decide)]; exact h1w
    have h58 : cf S48 a 5 = nI z := by rw [← hS48, cf_ne (by decide)]; exact h5w
    refine lv_aload_n hx hb dX1_decide_51 rfl (lv_at hl 0 rfl) ?_
    refine x_get F hI 3 (by decide) rfl flX1_30 dX1_decide_52 ?_
    refine lv_aload_n hx hb dX1_decide_55 rfl (lv_at hl 1 rfl) ?_
    refine x_cget F hI ha8 1 (by decide) rfl flX1_112 dX1_decide_56 ?_
    refine ktop (y := nI (sh)) (by exact h18) ?_
    refine x_tal F hI (s' := (sh)) (by omega) rfl dX1_decide_59 ?_
    refine lv_iconst (v := nI 0) hx hb dX1_decide_60 (by decide) ?_
    refine lv_dup2_11 hx hb dX1_decide_61 rfl rfl ?_
    refine x_tald F hI (s' := (sh)) (by omega) (show 0 < 7 by omega) rfl dX1_decide_62 ?_
    refine lv_iconst (v := nI 1) hx hb dX1_decide_63 (by decide) ?_
    refine lv_iadd hx hb dX1_decide_64 ?_
    refine x_tast F hI (s' := (sh)) (by omega) (show 0 < 7 by omega) rfl dX1_decide_65 (fun H locs hI => ?_)
    have hI : kI D _ A s.heap (xinc S48 (4 + sh) 0) H locs := hI
    generalize hS65 : xinc S48 (4 + sh) 0 = S65 at hI
    refine lv_aload_n hx hb dX1_decide_66 rfl (lv_at hl 0 rfl) ?_
    refine x_get F hI 4 (by decide) rfl flX1_33 dX1_decide_67 ?_
    refine lv_aload_n hx hb dX1_decide_70 rfl (lv_at hl 1 rfl) ?_
    refine x_cget F hI (show a ∈ S65.2.2.2.1 by rw [← hS65]; exact ha8) 5 (by decide) rfl flX1_115 dX1_decide_71 ?_
    refine ktop (y := nI (z)) (by rw [← hS65]; exact h58) ?_
    refine kcallS (rest := [.ref _]) F hA hI (xc_stepOf l _ z hz) kgX1_183 hl.1 rfl rfl (Nat.le_of_ble_eq_true rfl) dX1_decide_74 ⟨Nat.le_of_ble_eq_true rfl, Nat.le_of_ble_eq_true rfl⟩ ⟨Nat.le_of_ble_eq_true rfl, Nat.le_of_ble_eq_true rfl⟩ (fun vq uq H locs hp hI => ?_)
    obtain ⟨rfl, hu⟩ := hp
    rw [hu] at hI
    clear hu
    refine kstk (b := .int _ :: [.ref _]) rfl ?_
    refine lv_dup2_11 hx hb dX1_decide_77 rfl rfl ?_
    refine x_ald F hI 3 (show (stp z) < 14 by omega) rfl dX1_decide_78 ?_
    refine lv_iconst (v := nI 1) hx hb dX1_decide_79 (by decide) ?_
    refine lv_iadd hx hb dX1_decide_80 ?_
    refine x_ast F hI 3 (show (stp z) < 14 by omega) rfl dX1_decide_81 (fun H locs hI => ?_)
    have hI : kI D _ A s.heap (xinc S65 3 (stp z)) H locs := hI
    generalize hS81 : xinc S65 3 (stp z) = S81 at hI
    refine lv_aload_n hx hb dX1_decide_82 rfl (lv_at hl 0 rfl) ?_
    refine x_get F hI 2 (by decide) rfl flX1_25 dX1_decide_83 ?_
    refine lv_bipush (v := nI 10) hx hb dX1_decide_86 (by decide) ?_
    refine lv_dup2_11 hx hb dX1_decide_88 rfl rfl ?_
    refine x_ald F hI 2 (show 10 < 13 by omega) rfl dX1_decide_89 ?_
    refine lv_iconst (v := nI 1) hx hb dX1_decide_90 (by decide) ?_
    refine lv_iadd hx hb dX1_decide_91 ?_
    refine x_ast F hI 2 (show 10 < 13 by omega) rfl dX1_decide_92 (fun H locs hI => ?_)
    have hI : kI D _ A s.heap (xinc S81 2 10) H locs := hI
    generalize hS92 : xinc S81 2 10 = S92 at hI
    refine lv_iload_n hx hb dX1_decide_93 rfl (lv_at hl 2 rfl) ?_
    refine lv_if_eq (tgt := 108) hx hb dX1_decide_94 (by decide) (fun c94 => ?_) (fun c94 => ?_)
    ·
      rw [bI_z] at c94
      exact h108 _ _ _ _ hI (by rw [x_d2, hS48, hS65, hS81, hS92, x_tn, if_neg (by rw [c94]; decide)]) hl
    ·
      rw [bI_z] at c94
      refine lv_aload_n hx hb dX1_decide_97 rfl (lv_at hl 0 rfl) ?_
      refine x_get F hI 2 (by decide) rfl flX1_25 dX1_decide_98 ?_
      refine lv_bipush (v := nI 11) hx hb dX1_decide_101 (by decide) ?_
      refine lv_dup2_11 hx hb dX1_decide_103 rfl rfl ?_
      refine x_ald F hI 2 (show 11 < 13 by omega) rfl dX1_decide_104 ?_
      refine lv_iconst (v := nI 1) hx hb dX1_decide_105 (by decide) ?_
      refine lv_iadd hx hb dX1_decide_106 ?_
      refine x_ast F hI 2 (show 11 < 13 by omega) rfl dX1_decide_107 (fun H locs hI => ?_)
      exact h108 _ _ _ _ hI (by rw [x_d2, hS48, hS65, hS81, hS92, x_tn, if_pos (by simpa using c94)]; rfl) hl
  refine lv_aload_n hx hb dX1_decide_0 rfl (lv_at hl 0 rfl) ?_
  refine lv_aload_n hx hb dX1_decide_1 rfl (lv_at hl 1 rfl) ?_
  refine kcallV (rest := []) F hA hI (xc_stop l _ a n ha hn h0) kgX1_152 (x_rec F hI) hl.1 rfl rfl (Nat.le_of_ble_eq_true rfl) dX1_decide_2 ⟨Nat.le_of_ble_eq_true rfl, Nat.le_of_ble_eq_true rfl⟩ ⟨Nat.le_of_ble_eq_true rfl, Nat.le_of_ble_eq_true rfl⟩ (fun vq uq H locs hp hI => ?_)
  obtain ⟨rfl, hu⟩ := hp
  rw [hu] at hI
  clear hu
  refine kstk (b := []) rfl ?_
  have hI : kI D _ A s.heap (x_stop st n) H locs := hI
  generalize hS2 : x_stop st n = S2 at hI
  have ha2 : a ∈ S2.2.2.2.1 := by rw [← hS2]; exact ha
  refine lv_aload_n hx hb dX1_decide_5 rfl (lv_at hl 0 rfl) ?_
  refine x_get F hI 6 (by decide) rfl flX1_42 dX1_decide_6 ?_
  refine lv_aload_n hx hb dX1_decide_9 rfl (lv_at hl 1 rfl) ?_
  refine x_cget F hI ha2 0 (by decide) rfl flX1_131 dX1_decide_10 ?_
  refine ktop (y := nI (n)) (by rw [← hS2]; exact h0) ?_
  refine lv_aload_n hx hb dX1_decide_13 rfl (lv_at hl 1 rfl) ?_
  refine x_rst F hI ha2 1 (show (n) < 100 by omega) rfl dX1_decide_14 (fun H locs hI => ?_)
  have hI : kI D _ A s.heap (xrf S2 1 n (some a)) H locs := hI
  generalize hS14 : xrf S2 1 n (some a) = S14 at hI
  have ha3 : a ∈ S14.2.2.2.1 := by rw [← hS14]; exact ha2
  refine lv_aload_n hx hb dX1_decide_15 rfl (lv_at hl 1 rfl) ?_
  refine lv_iload_n hx hb dX1_decide_16 rfl (lv_at hl 2 rfl) ?_
  refine x_cput (ty := .boolean) F hI ha3 9 (by decide) rfl flX1_137 (by decide +kernel) (bI_nar tn) (by cases tn <;> rfl) rfl dX1_decide_17 (fun H locs hI => ?_)
  have hI : kI D _ A s.heap (xc S14 a 9 (bI tn)) H locs := hI
  generalize hS17 : xc S14 a 9 (bI tn) = S17 at hI
  have ha5 : a ∈ S17.2.2.2.1 := by rw [← hS17]; exact ha3
  refine lv_aload_n hx hb dX1_decide_20 rfl (lv_at hl 1 rfl) ?_
  refine lv_aload_n hx hb dX1_decide_21 rfl (lv_at hl 0 rfl) ?_
  refine x_get F hI 2 (by decide) rfl flX1_25 dX1_decide_22 ?_
  refine lv_iconst (v := nI 0) hx hb dX1_decide_25 (by decide) ?_
  refine x_ald F hI 2 (show 0 < 13 by omega) rfl dX1_decide_26 ?_
  refine x_cput (ty := .int) F hI ha5 7 (by decide) rfl flX1_140 (by decide +kernel) rfl rfl rfl dX1_decide_27 (fun H locs hI => ?_)
  have hI : kI D _ A s.heap (xcnow S17 a 7) H locs := hI
  generalize hS27 : xcnow S17 a 7 = S27 at hI
  have e27 : S27 = S4 := by rw [← hS4, x_d1, hS2, hS14, hS17, hS27]
  rw [e27] at hI
  refine lv_aload_n hx hb dX1_decide_30 rfl (lv_at hl 1 rfl) ?_
  refine lv_iload_n hx hb dX1_decide_31 rfl (lv_at hl 2 rfl) ?_
  refine lv_if_eq (tgt := 43) hx hb dX1_decide_32 (by decide) (fun c32 => ?_) (fun c32 => ?_)
  ·
    rw [bI_z] at c32
    refine lv_aload_n hx hb dX1_decide_43 rfl (lv_at hl 0 rfl) ?_
    refine lv_aload_n hx hb dX1_decide_44 rfl (lv_at hl 1 rfl) ?_
    refine kcallV (rest := [.ref _]) F hA hI (xc_rare l _ a sh (nI z) ha4 hs h14 h54) kgX1_180 (x_rec F hI) hl.1 rfl rfl (Nat.le_of_ble_eq_true rfl) dX1_decide_45 ⟨Nat.le_of_ble_eq_true rfl, Nat.le_of_ble_eq_true rfl⟩ ⟨Nat.le_of_ble_eq_true rfl, Nat.le_of_ble_eq_true rfl⟩ (fun vq uq H locs hp hI => ?_)
    obtain ⟨rfl, hu⟩ := hp
    rw [hu] at hI
    clear hu
    refine kstk (b := .int _ :: [.ref _]) rfl ?_
    have ew : x_rareS S4 sh (nI z) = w := by rw [← hw, x_weigh, if_neg (by rw [c32]; decide)]
    rw [ew] at hI ⊢
    exact h48 _ _ _ hI hl
  ·
    rw [bI_z] at c32
    refine lv_aload_n hx hb dX1_decide_35 rfl (lv_at hl 0 rfl) ?_
    refine lv_aload_n hx hb dX1_decide_36 rfl (lv_at hl 1 rfl) ?_
    refine kcallV (rest := [.ref _]) F hA hI (xc_torn l _ a sh (nI z) ha4 hs h14 h54) kgX1_176 (x_rec F hI) hl.1 rfl rfl (Nat.le_of_ble_eq_true rfl) dX1_decide_37 ⟨Nat.le_of_ble_eq_true rfl, Nat.le_of_ble_eq_true rfl⟩ ⟨Nat.le_of_ble_eq_true rfl, Nat.le_of_ble_eq_true rfl⟩ (fun vq uq H locs hp hI => ?_)
    obtain ⟨rfl, hu⟩ := hp
    rw [hu] at hI
    clear hu
    refine kstk (b := .int _ :: [.ref _]) rfl ?_
    refine lv_goto (tgt := 48) hx hb dX1_decide_40 (by decide) ?_
    have ew : x_tornS S4 sh (nI z) = w := by rw [← hw, x_weigh, if_pos (by simpa using c32)]
    rw [ew] at hI ⊢
    exact h48 _ _ _ hI hl
end XC2
end
section
theorem isB_t {n N : Nat} (h : n < N) (hN : N < 2 ^ 31) : decide (¬ nI n < 0 ∧ ¬ nI N ≤ nI n) = true := by
  rw [decide_eq_true_eq, nI_leI hN (by omega)]
  exact ⟨nI_pos (by omega), by omega⟩
set_option maxRecDepth 100000 in
theorem oiX0 : Cond.methodLink RX0 3 objectInit ∈ wsL_law := List.mem_of_getElem? (i := 198) rfl
set_option maxRecDepth 100000 in
theorem oiX1 : Cond.methodLink RX1 1 objectInit ∈ wsL_law := List.mem_of_getElem? (i := 9) rfl
set_option maxRecDepth 100000 in
theorem oiX2 : Cond.methodLink RX2 1 objectInit ∈ wsL_law := List.mem_of_getElem? (i := 35) rfl
set_option maxRecDepth 100000 in
theorem oiI : Cond.instanceMethod objectInit ∈ wsL_law := List.mem_of_getElem? (i := 10) rfl
set_option maxRecDepth 100000 in
theorem oiC : Cond.code objectInit ⟨#[0xb1]⟩ 1 none ∈ wsL_law := List.mem_of_getElem? (i := 11) rfl
set_option maxRecDepth 100000 in
theorem nwC : Cond.classLink RX1 36 RX0 ∈ wsL_law := List.mem_of_getElem? (i := 27) rfl
set_option maxRecDepth 100000 in
theorem nwI : Cond.instantiable RX0 12 ∈ wsL_law := List.mem_of_getElem? (i := 116) rfl
set_option maxRecDepth 100000 in
theorem nwN : Cond.initialized RX0 ∈ wsL_law := List.mem_of_getElem? (i := 117) rfl
/-! the class: a piece -/
def x_dec (st : XS) (a : Nat) (tn : Bool) : XS := x_decS st a (cf st a 0).toNatClampNeg (cf st a 1).toNatClampNeg (cf st a 5).toNatClampNeg tn (st.1 2 2).toNatClampNeg
def x_last (st : XS) (a pq : Nat) (il : Bool) : XS := if il = true then xc st a 6 (nI pq) else st
def x_tk (st : XS) (a pq : Nat) (il : Bool) (z : Nat) : XS := x_last (x_add st a pq (nI z)) a pq il
def x_takeIn (st : XS) (a pq : Nat) (il : Bool) (z : Nat) : Nat × XS := if x_whole (cf (x_tk st a pq il z) a 6) (cf (x_tk st a pq il z) a 4) = true then (2, x_dec (x_tk st a pq il z) a false) else (1, x_tk st a pq il z)
def x_hearW (st : XS) (a pq : Nat) (il : Bool) (z : Nat) : Nat × XS := if x_has (cf st a 4) pq = true then (3, xinc st 2 5) else if x_contr (cf st a 6) (cf st a 4) pq il = true then (4, xinc st 2 6) else x_takeIn st a pq il z
def x_recall (st : XS) (n : Nat) : Option Nat := match st.2.1 1 n with
  | none => none
  | some a => if cf st a 11 = 0 ∧ st.1 2 0 - cf st a 7 < nI 50 then some a else none
def x_hearD (st : XS) (a pq z : Nat) : Nat × XS := if cf st a 10 = 0 ∨ st.1 1 5 < st.1 2 0 - cf st a 7 ∨ x_has (cf st a 4) pq = true then (6, xinc st 2 8) else (5, xinc (x_add st a pq (nI z)) 2 7)
def x_first (st : XS) (q n sh : Nat) : XS := xinc (xrf (x_born (xnew st q) q (nI n) (nI sh) (hm (x_up st) n) (st.1 2 0)) 0 n (some q)) 2 1
def x_piece (st : XS) (q n pq : Nat) (il : Bool) (sh z : Nat) : Nat × XS :=
  if hm (x_up st) n = -9 then (7, xinc st 2 9)
  else match st.2.1 0 n with
    | some a => x_hearW st a pq il z
    | none => match x_recall st n with
      | some a => x_hearD st a pq z
      | none => if st.1 2 1 < nI 24 then x_takeIn (x_first st q n sh) q pq il z else (7, xinc st 2 9)
theorem fresh_ex (L : List Nat) : ∃ q, q ∉ L := by
  have key : ∀ L : List Nat, ∃ b, ∀ x ∈ L, x < b := by
    intro L
    induction L with
    | nil => exact ⟨0, fun x h => by cases h⟩
    | cons y L ih =>
      obtain ⟨b, hb⟩ := ih
      refine ⟨b + y + 1, fun x hx => ?_⟩
      rcases List.mem_cons.mp hx with rfl | hx
      · omega
      · have := hb x hx
        omega
  obtain ⟨b, hb⟩ := key L
  exact ⟨b, fun h => Nat.lt_irrefl b (hb b h)⟩
/-- what a call that waits is, for the piece pq of length z -/
def x_okW (st : XS) (a n pq z : Nat) : Prop := a ∈ st.2.2.2.1 ∧ cf st a 0 = nI n ∧ ∃ sh zl, sh < 5 ∧ cf st a 1 = nI sh ∧ cf st a 5 = nI zl ∧ (x_has (cf st a 4) pq = false → zl + z < 8192)
section XC3
variable (l : Launch) {D : va_G} {g : Nat → Nat} {K : Nat → ClassId}
theorem xc_init (st : XS) (a : Nat) (nn sn kn tt : Int32) (ha : a ∈ st.2.2.2.1) : kM l yX0_init cX0_init 5 none 1 14 0 0 D (xty K) (xw g K) [.ref a, .int nn, .int sn, .int kn, .int tt] st (fun v u => v = none ∧ u = x_born st a nn sn kn tt) := by
  refine kM_intro (by decide) (Nat.le_of_ble_eq_true rfl) ?_
  intro p e s m below meth c A ls F hA hI hl
  obtain ⟨hx, hb, hr, hml, hown, hts, hlk, hK, hnm⟩ := id F
  have hl : lv_has ls 5 [(0, .ref a), (1, .int nn), (2, .int sn), (3, .int kn), (4, .int tt)] := hl
  refine lv_aload_n hx hb dX0_init_0 rfl (lv_at hl 0 rfl) ?_
  refine W.objInit hx hb hown (hts _ oiX0) (hts _ oiI) (hts _ oiC) rfl (by rw [hml]; exact hl.1) rfl dX0_init_1 (Nat.le_of_ble_eq_true rfl) (Nat.le_of_ble_eq_true rfl) ?_
  refine W.eq (g2 := F0 m 4 ls []) rfl ?_
  refine lv_aload_n hx hb dX0_init_4 rfl (lv_at hl 0 rfl) ?_
  refine lv_iconst (v := nI 0) hx hb dX0_init_5 (by decide) ?_
  refine x_cput (ty := .int) F hI ha 4 (by decide) rfl flX0_9 (by decide +kernel) rfl rfl rfl dX0_init_6 (fun H locs hI => ?_)
  have hI : kI D _ A s.heap (xc st a 4 (nI 0)) H locs := hI
  generalize hS6 : xc st a 4 (nI 0) = S6 at hI
  have ha : a ∈ S6.2.2.2.1 := by rw [← hS6]; exact ha
  refine lv_aload_n hx hb dX0_init_9 rfl (lv_at hl 0 rfl) ?_
  refine lv_iconst (v := nI 0) hx hb dX0_init_10 (by decide) ?_
  refine x_cput (ty := .int) F hI ha 5 (by decide) rfl flX0_15 (by decide +kernel) rfl rfl rfl dX0_init_11 (fun H locs hI => ?_)
  have hI : kI D _ A s.heap (xc S6 a 5 (nI 0)) H locs := hI
  generalize hS11 : xc S6 a 5 (nI 0) = S11 at hI
  have ha : a ∈ S11.2.2.2.1 := by rw [← hS11]; exact ha
  refine lv_aload_n hx hb dX0_init_14 rfl (lv_at hl 0 rfl) ?_
  refine lv_bipush (v := -9) hx hb dX0_init_15 (by decide) ?_
  refine x_cput (ty := .int) F hI ha 6 (by decide) rfl flX0_18 (by decide +kernel) rfl rfl rfl dX0_init_17 (fun H locs hI => ?_)
  have hI : kI D _ A s.heap (xc S11 a 6 (-9)) H locs := hI
  generalize hS17 : xc S11 a 6 (-9) = S17 at hI
  have ha : a ∈ S17.2.2.2.1 := by rw [← hS17]; exact ha
  refine lv_aload_n hx hb dX0_init_20 rfl (lv_at hl 0 rfl) ?_
  refine lv_iconst (v := nI 0) hx hb dX0_init_21 (by decide) ?_
  refine x_cput (ty := .int) F hI ha 7 (by decide) rfl flX0_21 (by decide +kernel) rfl rfl rfl dX0_init_22 (fun H locs hI => ?_)
  have hI : kI D _ A s.heap (xc S17 a 7 (nI 0)) H locs := hI
  generalize hS22 : xc S17 a 7 (nI 0) = S22 at hI
  have ha : a ∈ S22.2.2.2.1 := by rw [← hS22]; exact ha
  refine lv_aload_n hx hb dX0_init_25 rfl (lv_at hl 0 rfl) ?_
  refine lv_iconst (v := nI 0) hx hb dX0_init_26 (by decide) ?_
  refine x_cput (ty := .int) F hI ha 8 (by decide) rfl flX0_24 (by decide +kernel) rfl rfl rfl dX0_init_27 (fun H locs hI => ?_)
  have hI : kI D _ A s.heap (xc S22 a 8 (nI 0)) H locs := hI
  generalize hS27 : xc S22 a 8 (nI 0) = S27 at hI
  have ha : a ∈ S27.2.2.2.1 := by rw [← hS27]; exact ha
  refine lv_aload_n hx hb dX0_init_30 rfl (lv_at hl 0 rfl) ?_
  refine lv_iconst (v := nI 0) hx hb dX0_init_31 (by decide) ?_
  refine x_cput (ty := .boolean) F hI ha 9 (by decide) rfl flX0_27 (by decide +kernel) rfl rfl rfl dX0_init_32 (fun H locs hI => ?_)
  have hI : kI D _ A s.heap (xc S27 a 9 (nI 0)) H locs := hI
  generalize hS32 : xc S27 a 9 (nI 0) = S32 at hI
  have ha : a ∈ S32.2.2.2.1 := by rw [← hS32]; exact ha
  refine lv_aload_n hx hb dX0_init_35 rfl (lv_at hl 0 rfl) ?_
  refine lv_iconst (v := nI 0) hx hb dX0_init_36 (by decide) ?_
  refine x_cput (ty := .boolean) F hI ha 10 (by decide) rfl flX0_31 (by decide +kernel) rfl rfl rfl dX0_init_37 (fun H locs hI => ?_)
  have hI : kI D _ A s.heap (xc S32 a 10 (nI 0)) H locs := hI
  generalize hS37 : xc S32 a 10 (nI 0) = S37 at hI
  have ha : a ∈ S37.2.2.2.1 := by rw [← hS37]; exact ha
  refine lv_aload_n hx hb dX0_init_40 rfl (lv_at hl 0 rfl) ?_
  refine lv_iconst (v := nI 0) hx hb dX0_init_41 (by decide) ?_
  refine x_cput (ty := .boolean) F hI ha 11 (by decide) rfl flX0_34 (by decide +kernel) rfl rfl rfl dX0_init_42 (fun H locs hI => ?_)
  have hI : kI D _ A s.heap (xc S37 a 11 (nI 0)) H locs := hI
  generalize hS42 : xc S37 a 11 (nI 0) = S42 at hI
  have ha : a ∈ S42.2.2.2.1 := by rw [← hS42]; exact ha
  refine lv_aload_n hx hb dX0_init_45 rfl (lv_at hl 0 rfl) ?_
  refine lv_iload_n hx hb dX0_init_46 rfl (lv_at hl 1 rfl) ?_
  refine x_cputF F hI ha 0 (by decide) flX0_37 (by decide +kernel) rfl rfl rfl dX0_init_47 (fun H locs hI => ?_)
  have hI : kI D _ A s.heap (xc S42 a 0 nn) H locs := hI
  generalize hS47 : xc S42 a 0 nn = S47 at hI
  have ha : a ∈ S47.2.2.2.1 := by rw [← hS47]; exact ha
  refine lv_aload_n hx hb dX0_init_50 rfl (lv_at hl 0 rfl) ?_
  refine lv_iload_n hx hb dX0_init_51 rfl (lv_at hl 2 rfl) ?_
  refine x_cputF F hI ha 1 (by decide) flX0_40 (by decide +kernel) rfl rfl rfl dX0_init_52 (fun H locs hI => ?_)
  have hI : kI D _ A s.heap (xc S47 a 1 sn) H locs := hI
  generalize hS52 : xc S47 a 1 sn = S52 at hI
  have ha : a ∈ S52.2.2.2.1 := by rw [← hS52]; exact ha
  refine lv_aload_n hx hb dX0_init_55 rfl (lv_at hl 0 rfl) ?_
  refine lv_iload_n hx hb dX0_init_56 rfl (lv_at hl 3 rfl) ?_
  refine x_cput (ty := .int) F hI ha 3 (by decide) rfl flX0_43 (by decide +kernel) rfl rfl rfl dX0_init_57 (fun H locs hI => ?_)
  have hI : kI D _ A s.heap (xc S52 a 3 kn) H locs := hI
  generalize hS57 : xc S52 a 3 kn = S57 at hI
  have ha : a ∈ S57.2.2.2.1 := by rw [← hS57]; exact ha
  refine lv_aload_n hx hb dX0_init_60 rfl (lv_at hl 0 rfl) ?_
  refine lv_iload hx hb dX0_init_61 (lv_at hl 4 rfl) ?_
  refine x_cputF F hI ha 2 (by decide) flX0_46 (by decide +kernel) rfl rfl rfl dX0_init_63 (fun H locs hI => ?_)
  have hI : kI D _ A s.heap (xc S57 a 2 tt) H locs := hI
  generalize hS63 : xc S57 a 2 tt = S63 at hI
  have ha : a ∈ S63.2.2.2.1 := by rw [← hS63]; exact ha
  exact kret_v F hI dX0_init_66 (⟨rfl, by rw [x_born, hS6, hS11, hS17, hS22, hS27, hS32, hS37, hS42, hS47, hS52, hS57, hS63]⟩)
theorem xc_takeIn (st : XS) (a pq : Nat) (il : Bool) (z n sh zl e' : Nat) (ha : a ∈ st.2.2.2.1) (hp : pq < 8) (hn : n < 100) (hs : sh < 5) (hzl : zl + z < 8192) (he : e' ≤ 20) (h0 : cf st a 0 = nI n) (h1 : cf st a 1 = nI sh) (h5 : cf st a 5 = nI zl) (h2 : st.1 2 2 = nI e') : kM l yX1_takeIn cX1_takeIn 5 (some .int) 5 107 0 0 D (xty K) (xw g K) [.ref (g 0), .ref a, .int (nI pq), .int (bI il), .int (nI z)] st (fun v u => v = some (.int (nI (x_takeIn st a pq il z).1)) ∧ u = (x_takeIn st a pq il z).2) := by
  refine kM_intro (by decide) (Nat.le_of_ble_eq_true rfl) ?_
  intro p e s m below meth c A ls F hA hI hl
  obtain ⟨hx, hb, hr, hml, hown, hts, hlk, hK, hnm⟩ := id F
  have hl : lv_has ls 5 [(0, .ref (g 0)), (1, .ref a), (2, .int (nI pq)), (3, .int (bI il)), (4, .int (nI z))] := hl
  have h16 : ∀ (u : XS) (H : Heap) (locs : List Loc) (ls : Array Slot), kI D (xw g K) A s.heap u H locs → u = x_tk st a pq il z → lv_has ls 5 [(0, .ref (g 0)), (1, .ref a), (2, .int (nI pq)), (3, .int (bI il)), (4, .int (nI z))] → W p l e { frames := 5, cells := 0, slots := 0, locals := 107 } s m #[.ref (g 0), .ref a, .int (nI pq), .int (bI il), .int (nI z)] below meth c H locs 0 0 (MQ below (kQ D (xty K) (xw g K) (fun v u => v = some (.int (nI (x_takeIn st a pq il z).1)) ∧ u = (x_takeIn st a pq il z).2) A) #[.ref (g 0), .ref a, .int (nI pq), .int (bI il), .int (nI z)] s 0 0 A) (F0 m 16 ls []) := by
    intro u H locs ls hI hu hl
    have huL : u.2.2.2.1 = st.2.2.2.1 := by rw [hu, x_tk, x_last]; split <;> rfl
    have hua : a ∈ u.2.2.2.1 := by rw [huL]; exact ha
    have hu0 : cf u a 0 = nI n := by rw [hu, x_tk, x_last]; split <;> simp only [x_add, xcad, xcor, cf_ne (show (0 : Nat) ≠ 6 by decide), cf_ne (show (0 : Nat) ≠ 5 by decide), cf_ne (show (0 : Nat) ≠ 4 by decide), h0]
    have hu1 : cf u a 1 = nI sh := by rw [hu, x_tk, x_last]; split <;> simp only [x_add, xcad, xcor, cf_ne (show (1 : Nat) ≠ 6 by decide), cf_ne (show (1 : Nat) ≠ 5 by decide), cf_ne (show (1 : Nat) ≠ 4 by decide), h1]
    have hu5 : cf u a 5 = nI (zl + z) := by rw [hu, x_tk, x_last]; split <;> simp only [x_add, xcad, xcor, cf_ne (show (5 : Nat) ≠ 6 by decide), cf_eq, cf_ne (show (5 : Nat) ≠ 4 by decide), h5, nI_add]
    have hu2 : u.1 2 2 = nI e' := by rw [hu, x_tk, x_last]; split <;> exact h2
    have hd : x_dec u a false = x_decS u a n sh (zl + z) false e' := by rw [x_dec, hu0, hu1, hu5, hu2, nI_clamp (by omega), nI_clamp (by omega), nI_clamp (by omega), nI_clamp (by omega)]
    refine lv_aload_n hx hb dX1_takeIn_16 rfl (lv_at hl 1 rfl) ?_
    refine kcallV (rest := []) F hA hI (xc_isWhole l _ a hua) kgX1_168 (x_crec F hI hua) hl.1 rfl rfl (Nat.le_of_ble_eq_true rfl) dX1_takeIn_17 ⟨Nat.le_of_ble_eq_true rfl, Nat.le_of_ble_eq_true rfl⟩ ⟨Nat.le_of_ble_eq_true rfl, Nat.le_of_ble_eq_true rfl⟩ (fun vq uq H locs hp hI => ?_)
    obtain ⟨rfl, hu⟩ := hp
    rw [hu] at hI
    clear hu
    refine kstk (b := .int _ :: []) rfl ?_
    refine lv_if_ne (tgt := 25) hx hb dX1_takeIn_20 (by decide) (fun c20 => ?_) (fun c20 => ?_)
    ·
      rw [bI_z] at c20
      refine lv_aload_n hx hb dX1_takeIn_25 rfl (lv_at hl 0 rfl) ?_
      refine lv_aload_n hx hb dX1_takeIn_26 rfl (lv_at hl 1 rfl) ?_
      refine lv_iconst (v := nI 0) hx hb dX1_takeIn_27 (by decide) ?_
      refine kcallV (rest := []) F hA hI (xc_decide l _ a n sh (zl + z) e' false hua hn hs hzl he hu0 hu1 hu5 hu2) kgX1_172 (x_rec F hI) hl.1 rfl rfl (Nat.le_of_ble_eq_true rfl) dX1_takeIn_28 ⟨Nat.le_of_ble_eq_true rfl, Nat.le_of_ble_eq_true rfl⟩ ⟨Nat.le_of_ble_eq_true rfl, Nat.le_of_ble_eq_true rfl⟩ (fun vq uq H locs hp hI => ?_)
      obtain ⟨rfl, hu⟩ := hp
      rw [hu] at hI
      clear hu
      refine kstk (b := []) rfl ?_
      refine lv_iconst (v := nI 2) hx hb dX1_takeIn_31 (by decide) ?_
      exact kret_i F hI dX1_takeIn_32 (⟨by simp at c20; simp [x_takeIn, ← hu, c20], by simp at c20; simp [x_takeIn, ← hu, c20, hd]⟩)
    ·
      rw [bI_z] at c20
      refine lv_iconst (v := nI 1) hx hb dX1_takeIn_23 (by decide) ?_
      exact kret_i F hI dX1_takeIn_24 (⟨by simp [x_takeIn, ← hu, c20], by simp [x_takeIn, ← hu, c20]⟩)
  refine lv_aload_n hx hb dX1_takeIn_0 rfl (lv_at hl 1 rfl) ?_
  refine lv_iload_n hx hb dX1_takeIn_1 rfl (lv_at hl 2 rfl) ?_
  refine lv_iload hx hb dX1_takeIn_2 (lv_at hl 4 rfl) ?_
  refine kcallV (rest := []) F hA hI (xc_add l _ a pq (nI z) ha) kgX1_164 (x_crec F hI ha) hl.1 rfl rfl (Nat.le_of_ble_eq_true rfl) dX1_takeIn_4 ⟨Nat.le_of_ble_eq_true rfl, Nat.le_of_ble_eq_true rfl⟩ ⟨Nat.le_of_ble_eq_true rfl, Nat.le_of_ble_eq_true rfl⟩ (fun vq uq H locs hp hI => ?_)
  obtain ⟨rfl, hu⟩ := hp
  rw [hu] at hI
  clear hu
  refine kstk (b := []) rfl ?_
  have hI : kI D _ A s.heap (x_add st a pq (nI z)) H locs := hI
  generalize hS4 : x_add st a pq (nI z) = S4 at hI
  have ha : a ∈ S4.2.2.2.1 := by rw [← hS4]; exact ha
  refine lv_iload_n hx hb dX1_takeIn_7 rfl (lv_at hl 3 rfl) ?_
  refine lv_if_eq (tgt := 16) hx hb dX1_takeIn_8 (by decide) (fun c8 => ?_) (fun c8 => ?_)
  ·
    rw [bI_z] at c8
    exact h16 _ _ _ _ hI (by rw [x_tk, hS4, x_last, if_neg (by rw [c8]; decide)]) hl
  ·
    rw [bI_z] at c8
    refine lv_aload_n hx hb dX1_takeIn_11 rfl (lv_at hl 1 rfl) ?_
    refine lv_iload_n hx hb dX1_takeIn_12 rfl (lv_at hl 2 rfl) ?_
    refine x_cput (ty := .int) F hI ha 6 (by decide) rfl flX1_118 (by decide +kernel) rfl rfl rfl dX1_takeIn_13 (fun H locs hI => ?_)
    exact h16 _ _ _ _ hI (by rw [x_tk, hS4, x_last, if_pos (by simpa using c8)]) hl
theorem xc_hearW (st : XS) (a pq : Nat) (il : Bool) (z n e' : Nat) (hp : pq < 8) (hn : n < 100) (he : e' ≤ 20) (hw : x_okW st a n pq z) (h2 : st.1 2 2 = nI e') : kM l yX1_hearWaiting cX1_hearWaiting 5 (some .int) 6 131 0 0 D (xty K) (xw g K) [.ref (g 0), .ref a, .int (nI pq), .int (bI il), .int (nI z)] st (fun v u => v = some (.int (nI (x_hearW st a pq il z).1)) ∧ u = (x_hearW st a pq il z).2) := by
  obtain ⟨ha, h0, sh, zl, hs, h1, h5, hzl⟩ := hw
  refine kM_intro (by decide) (Nat.le_of_ble_eq_true rfl) ?_
  intro p e s m below meth c A ls F hA hI hl
  obtain ⟨hx, hb, hr, hml, hown, hts, hlk, hK, hnm⟩ := id F
  have hl : lv_has ls 5 [(0, .ref (g 0)), (1, .ref a), (2, .int (nI pq)), (3, .int (bI il)), (4, .int (nI z))] := hl
  refine lv_aload_n hx hb dX1_hearWaiting_0 rfl (lv_at hl 1 rfl) ?_
  refine lv_iload_n hx hb dX1_hearWaiting_1 rfl (lv_at hl 2 rfl) ?_
  refine kcallV (rest := []) F hA hI (xc_has l _ a pq ha) kgX1_156 (x_crec F hI ha) hl.1 rfl rfl (Nat.le_of_ble_eq_true rfl) dX1_hearWaiting_2 ⟨Nat.le_of_ble_eq_true rfl, Nat.le_of_ble_eq_true rfl⟩ ⟨Nat.le_of_ble_eq_true rfl, Nat.le_of_ble_eq_true rfl⟩ (fun vq uq H locs hp hI => ?_)
  obtain ⟨rfl, hu⟩ := hp
  rw [hu] at hI
  clear hu
  refine kstk (b := .int _ :: []) rfl ?_
  refine lv_if_eq (tgt := 15) hx hb dX1_hearWaiting_5 (by decide) (fun c5 => ?_) (fun c5 => ?_)
  ·
    rw [bI_z] at c5
    refine lv_aload_n hx hb dX1_hearWaiting_15 rfl (lv_at hl 1 rfl) ?_
    refine lv_iload_n hx hb dX1_hearWaiting_16 rfl (lv_at hl 2 rfl) ?_
    refine lv_iload_n hx hb dX1_hearWaiting_17 rfl (lv_at hl 3 rfl) ?_
    refine kcallV (rest := []) F hA hI (xc_contr l _ a pq il ha) kgX1_160 (x_crec F hI ha) hl.1 rfl rfl (Nat.le_of_ble_eq_true rfl) dX1_hearWaiting_18 ⟨Nat.le_of_ble_eq_true rfl, Nat.le_of_ble_eq_true rfl⟩ ⟨Nat.le_of_ble_eq_true rfl, Nat.le_of_ble_eq_true rfl⟩ (fun vq uq H locs hp hI => ?_)
    obtain ⟨rfl, hu⟩ := hp
    rw [hu] at hI
    clear hu
    refine kstk (b := .int _ :: []) rfl ?_
    refine lv_if_eq (tgt := 32) hx hb dX1_hearWaiting_21 (by decide) (fun c21 => ?_) (fun c21 => ?_)
    ·
      rw [bI_z] at c21
      refine lv_aload_n hx hb dX1_hearWaiting_32 rfl (lv_at hl 0 rfl) ?_
      refine lv_aload_n hx hb dX1_hearWaiting_33 rfl (lv_at hl 1 rfl) ?_
      refine lv_iload_n hx hb dX1_hearWaiting_34 rfl (lv_at hl 2 rfl) ?_
      refine lv_iload_n hx hb dX1_hearWaiting_35 rfl (lv_at hl 3 rfl) ?_
      refine lv_iload hx hb dX1_hearWaiting_36 (lv_at hl 4 rfl) ?_
      refine kcallV (rest := []) F hA hI (xc_takeIn l _ a pq il z n sh zl e' ha hp hn hs (hzl c5) he h0 h1 h5 h2) kgX1_99 (x_rec F hI) hl.1 rfl rfl (Nat.le_of_ble_eq_true rfl) dX1_hearWaiting_38 ⟨Nat.le_of_ble_eq_true rfl, Nat.le_of_ble_eq_true rfl⟩ ⟨Nat.le_of_ble_eq_true rfl, Nat.le_of_ble_eq_true rfl⟩ (fun vq uq H locs hp hI => ?_)
      obtain ⟨rfl, hu⟩ := hp
      rw [hu] at hI
      clear hu
      refine kstk (b := .int _ :: []) rfl ?_
      exact kret_i F hI dX1_hearWaiting_41 (⟨by simp [x_hearW, c5, c21], by simp [x_hearW, c5, c21]⟩)
    ·
      rw [bI_z] at c21
      refine lv_aload_n hx hb dX1_hearWaiting_24 rfl (lv_at hl 0 rfl) ?_
      refine lv_bipush (v := nI 6) hx hb dX1_hearWaiting_25 (by decide) ?_
      refine lv_iconst (v := nI 4) hx hb dX1_hearWaiting_27 (by decide) ?_
      refine kcallV (rest := []) F hA hI (xc_counted l _ 6 (nI 4) (by decide)) kgX1_80 (x_rec F hI) hl.1 rfl rfl (Nat.le_of_ble_eq_true rfl) dX1_hearWaiting_28 ⟨Nat.le_of_ble_eq_true rfl, Nat.le_of_ble_eq_true rfl⟩ ⟨Nat.le_of_ble_eq_true rfl, Nat.le_of_ble_eq_true rfl⟩ (fun vq uq H locs hp hI => ?_)
      obtain ⟨rfl, hu⟩ := hp
      rw [hu] at hI
      clear hu
      refine kstk (b := .int _ :: []) rfl ?_
      exact kret_i F hI dX1_hearWaiting_31 (⟨by simp at c21; simp [x_hearW, c5, c21], by simp at c21; simp [x_hearW, c5, c21]⟩)
  ·
    rw [bI_z] at c5
    refine lv_aload_n hx hb dX1_hearWaiting_8 rfl (lv_at hl 0 rfl) ?_
    refine lv_iconst (v := nI 5) hx hb dX1_hearWaiting_9 (by decide) ?_
    refine lv_iconst (v := nI 3) hx hb dX1_hearWaiting_10 (by decide) ?_
    refine kcallV (rest := []) F hA hI (xc_counted l _ 5 (nI 3) (by decide)) kgX1_80 (x_rec F hI) hl.1 rfl rfl (Nat.le_of_ble_eq_true rfl) dX1_hearWaiting_11 ⟨Nat.le_of_ble_eq_true rfl, Nat.le_of_ble_eq_true rfl⟩ ⟨Nat.le_of_ble_eq_true rfl, Nat.le_of_ble_eq_true rfl⟩ (fun vq uq H locs hp hI => ?_)
    obtain ⟨rfl, hu⟩ := hp
    rw [hu] at hI
    clear hu
    refine kstk (b := .int _ :: []) rfl ?_
    exact kret_i F hI dX1_hearWaiting_14 (⟨by simp at c5; simp [x_hearW, c5], by simp at c5; simp [x_hearW, c5]⟩)
theorem xc_recall (st : XS) (n : Nat) (hn : n < 100) (hd : ∀ a, st.2.1 1 n = some a → a ∈ st.2.2.2.1) : kM l yX1_recall cX1_recall 3 (some (.object "CallKeepers$Call")) 0 0 0 0 D (xty K) (xw g K) [.ref (g 0), .int (nI n)] st (fun v u => v = some (va_rf (x_recall st n)) ∧ u = st) := by
  refine kM_intro (by decide) (Nat.le_of_ble_eq_true rfl) ?_
  intro p e s m below meth c A ls F hA hI hl
  obtain ⟨hx, hb, hr, hml, hown, hts, hlk, hK, hnm⟩ := id F
  have hl : lv_has ls 3 [(0, .ref (g 0)), (1, .int (nI n))] := hl
  rcases ho : st.2.1 1 n with _ | a
  · have hl := hl
    refine lv_aload_n hx hb dX1_recall_0 rfl (lv_at hl 0 rfl) ?_
    refine x_get F hI 6 (by decide) rfl flX1_42 dX1_recall_1 ?_
    refine lv_iload_n hx hb dX1_recall_4 rfl (lv_at hl 1 rfl) ?_
    refine x_rld F hI 1 (show n < 100 by omega) rfl dX1_recall_5 ?_
    refine kstk (b := .null :: _) (by rw [ho]; rfl) ?_
    refine lv_astore_nN (lv' := [(2, .null), (0, .ref _), (1, .int _)]) hx hb dX1_recall_6 rfl hl (by decide) rfl (fun ls hl => ?_)
    refine lv_aload_nN hx hb dX1_recall_7 rfl (lv_at hl 0 rfl) ?_
    refine lv_ifnullN (tgt := 34) hx hb dX1_recall_8 (by decide) ?_
    refine lv_null hx hb dX1_recall_34 ?_
    exact kret_q (r := none) F hI dX1_recall_35 (⟨by simp [x_recall, ho], rfl⟩)
  · have ha := hd a ho
    refine lv_aload_n hx hb dX1_recall_0 rfl (lv_at hl 0 rfl) ?_
    refine x_get F hI 6 (by decide) rfl flX1_42 dX1_recall_1 ?_
    refine lv_iload_n hx hb dX1_recall_4 rfl (lv_at hl 1 rfl) ?_
    refine x_rld F hI 1 (show n < 100 by omega) rfl dX1_recall_5 ?_
    refine kstk (b := .ref a :: _) (by rw [ho]; rfl) ?_
    refine lv_astore_n (lv' := [(2, .ref _), (0, .ref _), (1, .int _)]) hx hb dX1_recall_6 rfl hl (by decide) rfl (fun ls hl => ?_)
    refine lv_aload_n hx hb dX1_recall_7 rfl (lv_at hl 0 rfl) ?_
    refine lv_ifnull hx hb dX1_recall_8 ?_
    refine lv_aload_n hx hb dX1_recall_11 rfl (lv_at hl 0 rfl) ?_
    refine x_cget F hI ha 11 (by decide) rfl flX1_146 dX1_recall_12 ?_
    refine lv_if_ne (tgt := 34) hx hb dX1_recall_15 (by decide) (fun c15 => ?_) (fun c15 => ?_)
    ·
      refine lv_null hx hb dX1_recall_34 ?_
      exact kret_q (r := none) F hI dX1_recall_35 (⟨by simp [x_recall, ho, c15], rfl⟩)
    ·
      refine lv_aload_n hx hb dX1_recall_18 rfl (lv_at hl 1 rfl) ?_
      refine x_get F hI 2 (by decide) rfl flX1_25 dX1_recall_19 ?_
      refine lv_iconst (v := nI 0) hx hb dX1_recall_22 (by decide) ?_
      refine x_ald F hI 2 (show 0 < 13 by omega) rfl dX1_recall_23 ?_
      refine lv_aload_n hx hb dX1_recall_24 rfl (lv_at hl 0 rfl) ?_
      refine x_cget F hI ha 7 (by decide) rfl flX1_140 dX1_recall_25 ?_
      refine lv_isub hx hb dX1_recall_28 ?_
      refine lv_bipush (v := nI 50) hx hb dX1_recall_29 (by decide) ?_
      refine lv_icmp_lt (tgt := 36) hx hb dX1_recall_31 (by decide) (fun c31 => ?_) (fun c31 => ?_)
      ·
        refine lv_aload_n hx hb dX1_recall_36 rfl (lv_at hl 0 rfl) ?_
        exact kret_q (r := (some a)) F hI dX1_recall_37 (⟨by simp [x_recall, ho, c15, c31], rfl⟩)
      ·
        refine lv_null hx hb dX1_recall_34 ?_
        exact kret_q (r := none) F hI dX1_recall_35 (⟨by simp [x_recall, ho, c31], rfl⟩)
theorem xc_hearD (st : XS) (a pq z : Nat) (hp : pq < 8) (ha : a ∈ st.2.2.2.1) : kM l yX1_hearDecided cX1_hearDecided 5 (some .int) 1 22 0 0 D (xty K) (xw g K) [.ref (g 0), .ref a, .int (nI pq), .int (nI z)] st (fun v u => v = some (.int (nI (x_hearD st a pq z).1)) ∧ u = (x_hearD st a pq z).2) := by
  refine kM_intro (by decide) (Nat.le_of_ble_eq_true rfl) ?_
  intro p e s m below meth c A ls F hA hI hl
  obtain ⟨hx, hb, hr, hml, hown, hts, hlk, hK, hnm⟩ := id F
  have hl : lv_has ls 5 [(0, .ref (g 0)), (1, .ref a), (2, .int (nI pq)), (3, .int (nI z))] := hl
  refine lv_aload_n hx hb dX1_hearDecided_0 rfl (lv_at hl 0 rfl) ?_
  refine x_get F hI 2 (by decide) rfl flX1_25 dX1_hearDecided_1 ?_
  refine lv_iconst (v := nI 0) hx hb dX1_hearDecided_4 (by decide) ?_
  refine x_ald F hI 2 (show 0 < 13 by omega) rfl dX1_hearDecided_5 ?_
  refine lv_aload_n hx hb dX1_hearDecided_6 rfl (lv_at hl 1 rfl) ?_
  refine x_cget F hI ha 7 (by decide) rfl flX1_140 dX1_hearDecided_7 ?_
  refine lv_isub hx hb dX1_hearDecided_10 ?_
  refine lv_aload_n hx hb dX1_hearDecided_11 rfl (lv_at hl 0 rfl) ?_
  refine x_get F hI 1 (by decide) rfl flX1_22 dX1_hearDecided_12 ?_
  refine lv_iconst (v := nI 5) hx hb dX1_hearDecided_15 (by decide) ?_
  refine x_ald F hI 1 (show 5 < 6 by omega) rfl dX1_hearDecided_16 ?_
  refine lv_icmp_gt (tgt := 24) hx hb dX1_hearDecided_17 (by decide) (fun c17 => ?_) (fun c17 => ?_)
  ·
    refine lv_iconst (v := nI 0) hx hb dX1_hearDecided_24 (by decide) ?_
    refine lv_istore (lv' := [(4, .int _), (0, .ref _), (1, .ref _), (2, .int _), (3, .int _)]) hx hb dX1_hearDecided_25 hl (by decide) rfl (fun ls hl => ?_)
    refine lv_aload_n hx hb dX1_hearDecided_27 rfl (lv_at hl 2 rfl) ?_
    refine x_cget F hI ha 10 (by decide) rfl flX1_124 dX1_hearDecided_28 ?_
    refine lv_if_eq (tgt := 47) hx hb dX1_hearDecided_31 (by decide) (fun c31 => ?_) (fun c31 => ?_)
    ·
      refine lv_aload_n hx hb dX1_hearDecided_47 rfl (lv_at hl 1 rfl) ?_
      refine lv_bipush (v := nI 8) hx hb dX1_hearDecided_48 (by decide) ?_
      refine lv_bipush (v := nI 6) hx hb dX1_hearDecided_50 (by decide) ?_
      refine kcallV (rest := []) F hA hI (xc_counted l _ 8 (nI 6) (by decide)) kgX1_80 (x_rec F hI) hl.1 rfl rfl (Nat.le_of_ble_eq_true rfl) dX1_hearDecided_52 ⟨Nat.le_of_ble_eq_true rfl, Nat.le_of_ble_eq_true rfl⟩ ⟨Nat.le_of_ble_eq_true rfl, Nat.le_of_ble_eq_true rfl⟩ (fun vq uq H locs hp hI => ?_)
      obtain ⟨rfl, hu⟩ := hp
      rw [hu] at hI
      clear hu
      refine kstk (b := .int _ :: []) rfl ?_
      exact kret_i F hI dX1_hearDecided_55 (⟨by simp [x_hearD, c31], by simp [x_hearD, c31]⟩)
    ·
      refine lv_iload hx hb dX1_hearDecided_34 (lv_at hl 0 rfl) ?_
      refine lv_if_eq (tgt := 47) hx hb dX1_hearDecided_36 (by decide) (fun c36 => ?_) (fun c36 => absurd c36 ((fun q => q rfl)))
      refine lv_aload_n hx hb dX1_hearDecided_47 rfl (lv_at hl 1 rfl) ?_
      refine lv_bipush (v := nI 8) hx hb dX1_hearDecided_48 (by decide) ?_
      refine lv_bipush (v := nI 6) hx hb dX1_hearDecided_50 (by decide) ?_
      refine kcallV (rest := []) F hA hI (xc_counted l _ 8 (nI 6) (by decide)) kgX1_80 (x_rec F hI) hl.1 rfl rfl (Nat.le_of_ble_eq_true rfl) dX1_hearDecided_52 ⟨Nat.le_of_ble_eq_true rfl, Nat.le_of_ble_eq_true rfl⟩ ⟨Nat.le_of_ble_eq_true rfl, Nat.le_of_ble_eq_true rfl⟩ (fun vq uq H locs hp hI => ?_)
      obtain ⟨rfl, hu⟩ := hp
      rw [hu] at hI
      clear hu
      refine kstk (b := .int _ :: []) rfl ?_
      exact kret_i F hI dX1_hearDecided_55 (⟨by simp [x_hearD, c17], by simp [x_hearD, c17]⟩)
  ·
    refine lv_iconst (v := nI 1) hx hb dX1_hearDecided_20 (by decide) ?_
    refine lv_goto (tgt := 25) hx hb dX1_hearDecided_21 (by decide) ?_
    refine lv_istore (lv' := [(4, .int _), (0, .ref _), (1, .ref _), (2, .int _), (3, .int _)]) hx hb dX1_hearDecided_25 hl (by decide) rfl (fun ls hl => ?_)
    refine lv_aload_n hx hb dX1_hearDecided_27 rfl (lv_at hl 2 rfl) ?_
    refine x_cget F hI ha 10 (by decide) rfl flX1_124 dX1_hearDecided_28 ?_
    refine lv_if_eq (tgt := 47) hx hb dX1_hearDecided_31 (by decide) (fun c31 => ?_) (fun c31 => ?_)
    ·
      refine lv_aload_n hx hb dX1_hearDecided_47 rfl (lv_at hl 1 rfl) ?_
      refine lv_bipush (v := nI 8) hx hb dX1_hearDecided_48 (by decide) ?_
      refine lv_bipush (v := nI 6) hx hb dX1_hearDecided_50 (by decide) ?_
      refine kcallV (rest := []) F hA hI (xc_counted l _ 8 (nI 6) (by decide)) kgX1_80 (x_rec F hI) hl.1 rfl rfl (Nat.le_of_ble_eq_true rfl) dX1_hearDecided_52 ⟨Nat.le_of_ble_eq_true rfl, Nat.le_of_ble_eq_true rfl⟩ ⟨Nat.le_of_ble_eq_true rfl, Nat.le_of_ble_eq_true rfl⟩ (fun vq uq H locs hp hI => ?_)
      obtain ⟨rfl, hu⟩ := hp
      rw [hu] at hI
      clear hu
      refine kstk (b := .int _ :: []) rfl ?_
      exact kret_i F hI dX1_hearDecided_55 (⟨by simp [x_hearD, c31], by simp [x_hearD, c31]⟩)
    ·
      refine lv_iload hx hb dX1_hearDecided_34 (lv_at hl 0 rfl) ?_
      refine lv_if_eq (tgt := 47) hx hb dX1_hearDecided_36 (by decide) (fun c36 => absurd c36 ((by decide))) (fun c36 => ?_)
      refine lv_aload_n hx hb dX1_hearDecided_39 rfl (lv_at hl 2 rfl) ?_
      refine lv_iload_n hx hb dX1_hearDecided_40 rfl (lv_at hl 3 rfl) ?_
      refine kcallV (rest := []) F hA hI (xc_has l _ a pq ha) kgX1_156 (x_crec F hI ha) hl.1 rfl rfl (Nat.le_of_ble_eq_true rfl) dX1_hearDecided_41 ⟨Nat.le_of_ble_eq_true rfl, Nat.le_of_ble_eq_true rfl⟩ ⟨Nat.le_of_ble_eq_true rfl, Nat.le_of_ble_eq_true rfl⟩ (fun vq uq H locs hp hI => ?_)
      obtain ⟨rfl, hu⟩ := hp
      rw [hu] at hI
      clear hu
      refine kstk (b := .int _ :: []) rfl ?_
      refine lv_if_eq (tgt := 56) hx hb dX1_hearDecided_44 (by decide) (fun c44 => ?_) (fun c44 => ?_)
      ·
        rw [bI_z] at c44
        refine lv_aload_n hx hb dX1_hearDecided_56 rfl (lv_at hl 2 rfl) ?_
        refine lv_iload_n hx hb dX1_hearDecided_57 rfl (lv_at hl 3 rfl) ?_
        refine lv_iload_n hx hb dX1_hearDecided_58 rfl (lv_at hl 4 rfl) ?_
        refine kcallV (rest := []) F hA hI (xc_add l _ a pq (nI z) ha) kgX1_164 (x_crec F hI ha) hl.1 rfl rfl (Nat.le_of_ble_eq_true rfl) dX1_hearDecided_59 ⟨Nat.le_of_ble_eq_true rfl, Nat.le_of_ble_eq_true rfl⟩ ⟨Nat.le_of_ble_eq_true rfl, Nat.le_of_ble_eq_true rfl⟩ (fun vq uq H locs hp hI => ?_)
        obtain ⟨rfl, hu⟩ := hp
        rw [hu] at hI
        clear hu
        refine kstk (b := []) rfl ?_
        refine lv_aload_n hx hb dX1_hearDecided_62 rfl (lv_at hl 1 rfl) ?_
        refine lv_bipush (v := nI 7) hx hb dX1_hearDecided_63 (by decide) ?_
        refine lv_iconst (v := nI 5) hx hb dX1_hearDecided_65 (by decide) ?_
        refine kcallV (rest := []) F hA hI (xc_counted l _ 7 (nI 5) (by decide)) kgX1_80 (x_rec F hI) hl.1 rfl rfl (Nat.le_of_ble_eq_true rfl) dX1_hearDecided_66 ⟨Nat.le_of_ble_eq_true rfl, Nat.le_of_ble_eq_true rfl⟩ ⟨Nat.le_of_ble_eq_true rfl, Nat.le_of_ble_eq_true rfl⟩ (fun vq uq H locs hp hI => ?_)
        obtain ⟨rfl, hu⟩ := hp
        rw [hu] at hI
        clear hu
        refine kstk (b := .int _ :: []) rfl ?_
        exact kret_i F hI dX1_hearDecided_69 (⟨by simp [x_hearD, c31, c17, c44], by simp [x_hearD, c31, c17, c44]⟩)
      ·
        rw [bI_z] at c44
        refine lv_aload_n hx hb dX1_hearDecided_47 rfl (lv_at hl 1 rfl) ?_
        refine lv_bipush (v := nI 8) hx hb dX1_hearDecided_48 (by decide) ?_
        refine lv_bipush (v := nI 6) hx hb dX1_hearDecided_50 (by decide) ?_
        refine kcallV (rest := []) F hA hI (xc_counted l _ 8 (nI 6) (by decide)) kgX1_80 (x_rec F hI) hl.1 rfl rfl (Nat.le_of_ble_eq_true rfl) dX1_hearDecided_52 ⟨Nat.le_of_ble_eq_true rfl, Nat.le_of_ble_eq_true rfl⟩ ⟨Nat.le_of_ble_eq_true rfl, Nat.le_of_ble_eq_true rfl⟩ (fun vq uq H locs hp hI => ?_)
        obtain ⟨rfl, hu⟩ := hp
        rw [hu] at hI
        clear hu
        refine kstk (b := .int _ :: []) rfl ?_
        exact kret_i F hI dX1_hearDecided_55 (⟨by simp at c44; simp [x_hearD, c44], by simp at c44; simp [x_hearD, c44]⟩)
theorem xc_piece_bad (st : XS) (n pq sh z : Int32) (il : Bool) (h : decide (¬ n < 0 ∧ ¬ nI 100 ≤ n) = false ∨ decide (¬ pq < 0 ∧ ¬ nI 8 ≤ pq) = false ∨ decide (¬ sh < 0 ∧ ¬ nI 5 ≤ sh) = false ∨ inR z (nI 1) (nI 1000) = false) : kM l yX1_piece cX1_piece 10 (some .int) 7 155 1 12 D (xty K) (xw g K) [.ref (g 0), .int n, .int pq, .int (bI il), .int sh, .int z] st (fun v u => v = some (.int (-1)) ∧ u = st) := by
  refine kM_intro (by decide) (Nat.le_of_ble_eq_true rfl) ?_
  intro p e s m below meth c A ls F hA hI hl
  obtain ⟨hx, hb, hr, hml, hown, hts, hlk, hK, hnm⟩ := id F
  have hl : lv_has ls 10 [(0, .ref (g 0)), (1, .int n), (2, .int pq), (3, .int (bI il)), (4, .int sh), (5, .int z)] := hl
  refine lv_iload_n hx hb dX1_piece_0 rfl (lv_at hl 1 rfl) ?_
  refine lv_bipush (v := nI 100) hx hb dX1_piece_1 (by decide) ?_
  refine kcallS (rest := []) F hA hI (xc_isBelow l _ _ _) kgX1_52 hl.1 rfl rfl (Nat.le_of_ble_eq_true rfl) dX1_piece_3 ⟨Nat.le_of_ble_eq_true rfl, Nat.le_of_ble_eq_true rfl⟩ ⟨Nat.le_of_ble_eq_true rfl, Nat.le_of_ble_eq_true rfl⟩ (fun vq uq H locs hp hI => ?_)
  obtain ⟨rfl, hu⟩ := hp
  rw [hu] at hI
  clear hu
  refine kstk (b := .int _ :: []) rfl ?_
  refine lv_if_eq (tgt := 39) hx hb dX1_piece_6 (by decide) (fun c6 => ?_) (fun c6 => ?_)
  ·
    rw [bI_z] at c6
    refine lv_iconst (v := -1) hx hb dX1_piece_39 (by decide) ?_
    refine W.widen (k := 1) (n := 12) (by omega) (by omega) ?_
    exact kret_i F hI dX1_piece_40 (⟨rfl, rfl⟩)
  ·
    rw [bI_z] at c6
    refine lv_iload_n hx hb dX1_piece_9 rfl (lv_at hl 2 rfl) ?_
    refine lv_bipush (v := nI 8) hx hb dX1_piece_10 (by decide) ?_
    refine kcallS (rest := []) F hA hI (xc_isBelow l _ _ _) kgX1_52 hl.1 rfl rfl (Nat.le_of_ble_eq_true rfl) dX1_piece_12 ⟨Nat.le_of_ble_eq_true rfl, Nat.le_of_ble_eq_true rfl⟩ ⟨Nat.le_of_ble_eq_true rfl, Nat.le_of_ble_eq_true rfl⟩ (fun vq uq H locs hp hI => ?_)
    obtain ⟨rfl, hu⟩ := hp
    rw [hu] at hI
    clear hu
    refine kstk (b := .int _ :: []) rfl ?_
    refine lv_if_eq (tgt := 39) hx hb dX1_piece_15 (by decide) (fun c15 => ?_) (fun c15 => ?_)
    ·
      rw [bI_z] at c15
      refine lv_iconst (v := -1) hx hb dX1_piece_39 (by decide) ?_
      refine W.widen (k := 1) (n := 12) (by omega) (by omega) ?_
      exact kret_i F hI dX1_piece_40 (⟨rfl, rfl⟩)
    ·
      rw [bI_z] at c15
      refine lv_iload hx hb dX1_piece_18 (lv_at hl 4 rfl) ?_
      refine lv_iconst (v := nI 5) hx hb dX1_piece_20 (by decide) ?_
      refine kcallS (rest := []) F hA hI (xc_isBelow l _ _ _) kgX1_52 hl.1 rfl rfl (Nat.le_of_ble_eq_true rfl) dX1_piece_21 ⟨Nat.le_of_ble_eq_true rfl, Nat.le_of_ble_eq_true rfl⟩ ⟨Nat.le_of_ble_eq_true rfl, Nat.le_of_ble_eq_true rfl⟩ (fun vq uq H locs hp hI => ?_)
      obtain ⟨rfl, hu⟩ := hp
      rw [hu] at hI
      clear hu
      refine kstk (b := .int _ :: []) rfl ?_
      refine lv_if_eq (tgt := 39) hx hb dX1_piece_24 (by decide) (fun c24 => ?_) (fun c24 => ?_)
      ·
        rw [bI_z] at c24
        refine lv_iconst (v := -1) hx hb dX1_piece_39 (by decide) ?_
        refine W.widen (k := 1) (n := 12) (by omega) (by omega) ?_
        exact kret_i F hI dX1_piece_40 (⟨rfl, rfl⟩)
      ·
        rw [bI_z] at c24
        refine lv_iload hx hb dX1_piece_27 (lv_at hl 5 rfl) ?_
        refine lv_iconst (v := nI 1) hx hb dX1_piece_29 (by decide) ?_
        refine lv_sipush (v := nI 1000) hx hb dX1_piece_30 (by decide) ?_
        refine kcallS (rest := []) F hA hI (xc_isWithin l _ _ _ _) kgX1_73 hl.1 rfl rfl (Nat.le_of_ble_eq_true rfl) dX1_piece_33 ⟨Nat.le_of_ble_eq_true rfl, Nat.le_of_ble_eq_true rfl⟩ ⟨Nat.le_of_ble_eq_true rfl, Nat.le_of_ble_eq_true rfl⟩ (fun vq uq H locs hp hI => ?_)
        obtain ⟨rfl, hu⟩ := hp
        rw [hu] at hI
        clear hu
        refine kstk (b := .int _ :: []) rfl ?_
        refine lv_if_ne (tgt := 41) hx hb dX1_piece_36 (by decide) (fun c36 => absurd c36 ((fun q => q (bI_z.mpr ((h.resolve_left c6).resolve_left c15 |>.resolve_left c24))))) (fun c36 => ?_)
        refine lv_iconst (v := -1) hx hb dX1_piece_39 (by decide) ?_
        refine W.widen (k := 1) (n := 12) (by omega) (by omega) ?_
        exact kret_i F hI dX1_piece_40 (⟨rfl, rfl⟩)
theorem xc_piece (st : XS) (n pq : Nat) (il : Bool) (sh z e' : Nat) (hn : n < 100) (hp : pq < 8) (hs : sh < 5) (hz1 : 1 ≤ z) (hz : z ≤ 1000) (he : e' ≤ 20) (h2 : st.1 2 2 = nI e') (hW : ∀ a, st.2.1 0 n = some a → x_okW st a n pq z) (hD : ∀ a, st.2.1 1 n = some a → a ∈ st.2.2.2.1) : kM l yX1_piece cX1_piece 10 (some .int) 7 155 1 12 D (xty K) (xw g K) [.ref (g 0), .int (nI n), .int (nI pq), .int (bI il), .int (nI sh), .int (nI z)] st (fun v u => ∃ q, q ∉ st.2.2.2.1 ∧ v = some (.int (nI (x_piece st q n pq il sh z).1)) ∧ u = (x_piece st q n pq il sh z).2) := by
  refine kM_intro (by decide) (Nat.le_of_ble_eq_true rfl) ?_
  intro p e s m below meth c A ls F hA hI hl
  obtain ⟨hx, hb, hr, hml, hown, hts, hlk, hK, hnm⟩ := id F
  have hl : lv_has ls 10 [(0, .ref (g 0)), (1, .int (nI n)), (2, .int (nI pq)), (3, .int (bI il)), (4, .int (nI sh)), (5, .int (nI z))] := hl
  have g1 := isB_t (show n < 100 by omega) (by decide)
  have g2 := isB_t (show pq < 8 by omega) (by decide)
  have g3 := isB_t (show sh < 5 by omega) (by decide)
  have g4 : inR (nI z) (nI 1) (nI 1000) = true := inR_in (by decide) (by omega) (by omega)
  obtain ⟨q0, hq0⟩ := fresh_ex st.2.2.2.1
  have h41 : ∀ (H : Heap) (locs : List Loc) (ls : Array Slot), kI D (xw g K) A s.heap st H locs → lv_has ls 10 [(0, .ref (g 0)), (1, .int (nI n)), (2, .int (nI pq)), (3, .int (bI il)), (4, .int (nI sh)), (5, .int (nI z))] → W p l e { frames := 7, cells := 1, slots := 12, locals := 155 } s m #[.ref (g 0), .int (nI n), .int (nI pq), .int (bI il), .int (nI sh), .int (nI z)] below meth c H locs 0 0 (MQ below (kQ D (xty K) (xw g K) (fun v u => ∃ q, q ∉ st.2.2.2.1 ∧ v = some (.int (nI (x_piece st q n pq il sh z).1)) ∧ u = (x_piece st q n pq il sh z).2) A) #[.ref (g 0), .int (nI n), .int (nI pq), .int (bI il), .int (nI sh), .int (nI z)] s 1 12 A) (F0 m 41 ls []) := by
    intro H locs ls hI hl
    by_cases hh : hm (x_up st) n = -9
    · have hl := hl
      refine lv_aload_n hx hb dX1_piece_41 rfl (lv_at hl 0 rfl) ?_
      refine lv_iload_n hx hb dX1_piece_42 rfl (lv_at hl 1 rfl) ?_
      refine kcallV (rest := []) F hA hI (xc_homeOf l _ n hn) kgX1_63 (x_rec F hI) hl.1 rfl rfl (Nat.le_of_ble_eq_true rfl) dX1_piece_43 ⟨Nat.le_of_ble_eq_true rfl, Nat.le_of_ble_eq_true rfl⟩ ⟨Nat.le_of_ble_eq_true rfl, Nat.le_of_ble_eq_true rfl⟩ (fun vq uq H locs hp hI => ?_)
      obtain ⟨rfl, hu⟩ := hp
      rw [hu] at hI
      clear hu
      refine kstk (b := .int _ :: []) rfl ?_
      refine lv_istore (lv' := [(6, .int _), (0, .ref _), (1, .int _), (2, .int _), (3, .int _), (4, .int _), (5, .int _)]) hx hb dX1_piece_46 hl (by decide) rfl (fun ls hl => ?_)
      refine lv_iload hx hb dX1_piece_48 (lv_at hl 0 rfl) ?_
      refine lv_bipush (v := -9) hx hb dX1_piece_50 (by decide) ?_
      refine lv_icmp_ne (tgt := 64) hx hb dX1_piece_52 (by decide) (fun c52 => absurd c52 ((fun q => q hh))) (fun c52 => ?_)
      refine lv_aload_n hx hb dX1_piece_55 rfl (lv_at hl 1 rfl) ?_
      refine lv_bipush (v := nI 9) hx hb dX1_piece_56 (by decide) ?_
      refine lv_bipush (v := nI 7) hx hb dX1_piece_58 (by decide) ?_
      refine kcallV (rest := []) F hA hI (xc_counted l _ 9 (nI 7) (by decide)) kgX1_80 (x_rec F hI) hl.1 rfl rfl (Nat.le_of_ble_eq_true rfl) dX1_piece_60 ⟨Nat.le_of_ble_eq_true rfl, Nat.le_of_ble_eq_true rfl⟩ ⟨Nat.le_of_ble_eq_true rfl, Nat.le_of_ble_eq_true rfl⟩ (fun vq uq H locs hp hI => ?_)
      obtain ⟨rfl, hu⟩ := hp
      rw [hu] at hI
      clear hu
      refine kstk (b := .int _ :: []) rfl ?_
      refine W.widen (k := 1) (n := 12) (by omega) (by omega) ?_
      exact kret_i F hI dX1_piece_63 (⟨q0, hq0, by simp [x_piece, hh], by simp [x_piece, hh]⟩)
    rcases hw : st.2.1 0 n with _ | a
    · rcases hr : x_recall st n with _ | a
      · by_cases h24 : st.1 2 1 < nI 24
        · have hl := hl
          refine lv_aload_n hx hb dX1_piece_41 rfl (lv_at hl 0 rfl) ?_
          refine lv_iload_n hx hb dX1_piece_42 rfl (lv_at hl 1 rfl) ?_
          refine kcallV (rest := []) F hA hI (xc_homeOf l _ n hn) kgX1_63 (x_rec F hI) hl.1 rfl rfl (Nat.le_of_ble_eq_true rfl) dX1_piece_43 ⟨Nat.le_of_ble_eq_true rfl, Nat.le_of_ble_eq_true rfl⟩ ⟨Nat.le_of_ble_eq_true rfl, Nat.le_of_ble_eq_true rfl⟩ (fun vq uq H locs hp hI => ?_)
          obtain ⟨rfl, hu⟩ := hp
          rw [hu] at hI
          clear hu
          refine kstk (b := .int _ :: []) rfl ?_
          refine lv_istore (lv' := [(6, .int _), (0, .ref _), (1, .int _), (2, .int _), (3, .int _), (4, .int _), (5, .int _)]) hx hb dX1_piece_46 hl (by decide) rfl (fun ls hl => ?_)
          refine lv_iload hx hb dX1_piece_48 (lv_at hl 0 rfl) ?_
          refine lv_bipush (v := -9) hx hb dX1_piece_50 (by decide) ?_
          refine lv_icmp_ne (tgt := 64) hx hb dX1_piece_52 (by decide) (fun c52 => ?_) (fun c52 => absurd c52 (hh))
          refine lv_aload_n hx hb dX1_piece_64 rfl (lv_at hl 1 rfl) ?_
          refine x_get F hI 5 (by decide) rfl flX1_38 dX1_piece_65 ?_
          refine lv_iload_n hx hb dX1_piece_68 rfl (lv_at hl 2 rfl) ?_
          refine x_rld F hI 0 (show n < 100 by omega) rfl dX1_piece_69 ?_
          refine kstk (b := .null :: _) (by rw [hw]; rfl) ?_
          refine lv_astoreN (lv' := [(7, .null), (6, .int _), (0, .ref _), (1, .int _), (2, .int _), (3, .int _), (4, .int _), (5, .int _)]) hx hb dX1_piece_70 hl (by decide) rfl (fun ls hl => ?_)
          refine lv_aloadN hx hb dX1_piece_72 (lv_at hl 0 rfl) ?_
          refine lv_ifnullN (tgt := 88) hx hb dX1_piece_74 (by decide) ?_
          refine lv_aload_n hx hb dX1_piece_88 rfl (lv_at hl 2 rfl) ?_
          refine lv_iload_n hx hb dX1_piece_89 rfl (lv_at hl 3 rfl) ?_
          refine kcallV (rest := []) F hA hI (xc_recall l _ n hn hD) kgX1_88 (x_rec F hI) hl.1 rfl rfl (Nat.le_of_ble_eq_true rfl) dX1_piece_90 ⟨Nat.le_of_ble_eq_true rfl, Nat.le_of_ble_eq_true rfl⟩ ⟨Nat.le_of_ble_eq_true rfl, Nat.le_of_ble_eq_true rfl⟩ (fun vq uq H locs hp hI => ?_)
          obtain ⟨rfl, hu⟩ := hp
          rw [hu] at hI
          clear hu
          refine kstk (b := .null :: []) (by rw [hr]; rfl) ?_
          refine lv_astoreN (lv' := [(8, .null), (7, .null), (6, .int _), (0, .ref _), (1, .int _), (2, .int _), (3, .int _), (4, .int _), (5, .int _)]) hx hb dX1_piece_93 hl (by decide) rfl (fun ls hl => ?_)
          refine lv_aloadN hx hb dX1_piece_95 (lv_at hl 0 rfl) ?_
          refine lv_ifnullN (tgt := 110) hx hb dX1_piece_97 (by decide) ?_
          refine lv_aload_n hx hb dX1_piece_110 rfl (lv_at hl 3 rfl) ?_
          refine x_get F hI 2 (by decide) rfl flX1_25 dX1_piece_111 ?_
          refine lv_iconst (v := nI 1) hx hb dX1_piece_114 (by decide) ?_
          refine x_ald F hI 2 (show 1 < 13 by omega) rfl dX1_piece_115 ?_
          refine lv_bipush (v := nI 24) hx hb dX1_piece_116 (by decide) ?_
          refine lv_icmp_lt (tgt := 130) hx hb dX1_piece_118 (by decide) (fun c118 => ?_) (fun c118 => absurd c118 ((fun q => q h24)))
          refine x_new F hA hI nwC nwI nwN (Nat.le_of_ble_eq_true rfl) (Nat.le_of_ble_eq_true rfl) dX1_piece_130 (fun q H hq hI => ?_)
          have hqm : q ∈ (xnew st q).2.2.2.1 := List.mem_append_right _ (List.mem_singleton.mpr rfl)
          refine lv_dup hx hb dX1_piece_133 rfl ?_
          refine lv_iload_n hx hb dX1_piece_134 rfl (lv_at hl 4 rfl) ?_
          refine lv_iload hx hb dX1_piece_135 (lv_at hl 7 rfl) ?_
          refine lv_iload hx hb dX1_piece_137 (lv_at hl 2 rfl) ?_
          refine lv_aload_n hx hb dX1_piece_139 rfl (lv_at hl 3 rfl) ?_
          refine x_get F hI 2 (by decide) rfl flX1_25 dX1_piece_140 ?_
          refine lv_iconst (v := nI 0) hx hb dX1_piece_143 (by decide) ?_
          refine x_ald F hI 2 (show 0 < 13 by omega) rfl dX1_piece_144 ?_
          refine kcallI (rest := [.ref _]) F hA hI (xc_init l _ q (nI n) (nI sh) (hm (x_up st) n) (st.1 2 0) hqm) kgX1_96 hl.1 rfl rfl (Nat.le_of_ble_eq_true rfl) dX1_piece_145 ⟨Nat.le_of_ble_eq_true rfl, Nat.le_of_ble_eq_true rfl⟩ ⟨Nat.le_of_ble_eq_true rfl, Nat.le_of_ble_eq_true rfl⟩ (fun vq uq H locs hp hI => ?_)
          obtain ⟨rfl, hu⟩ := hp
          rw [hu] at hI
          clear hu
          refine kstk (b := [.ref _]) rfl ?_
          have hI : kI D _ A s.heap (x_born (xnew st q) q (nI n) (nI sh) (hm (x_up st) n) (st.1 2 0)) H locs := hI
          generalize hS145 : x_born (xnew st q) q (nI n) (nI sh) (hm (x_up st) n) (st.1 2 0) = S145 at hI
          have hqm : q ∈ S145.2.2.2.1 := by rw [← hS145]; exact hqm
          have q0' : cf S145 q 0 = nI n := by rw [← hS145, x_born, cf_ne (by decide), cf_ne (by decide), cf_ne (by decide), cf_eq]
          have q1' : cf S145 q 1 = nI sh := by rw [← hS145, x_born, cf_ne (by decide), cf_ne (by decide), cf_eq]
          have q5' : cf S145 q 5 = nI 0 := by rw [← hS145, x_born, cf_ne (by decide), cf_ne (by decide), cf_ne (by decide), cf_ne (by decide), cf_ne (by decide), cf_ne (by decide), cf_ne (by decide), cf_ne (by decide), cf_ne (by decide), cf_ne (by decide), cf_eq]
          have q2' : S145.1 2 2 = nI e' := by rw [← hS145]; exact h2
          refine lv_astore (lv' := [(9, .ref _), (8, .null), (7, .null), (6, .int _), (0, .ref _), (1, .int _), (2, .int _), (3, .int _), (4, .int _), (5, .int _)]) hx hb dX1_piece_148 hl (by decide) rfl (fun ls hl => ?_)
          refine lv_aload_n hx hb dX1_piece_150 rfl (lv_at hl 4 rfl) ?_
          refine x_get F hI 5 (by decide) rfl flX1_38 dX1_piece_151 ?_
          refine lv_iload_n hx hb dX1_piece_154 rfl (lv_at hl 5 rfl) ?_
          refine lv_aload hx hb dX1_piece_155 (lv_at hl 0 rfl) ?_
          refine x_rst F hI hqm 0 (show n < 100 by omega) rfl dX1_piece_157 (fun H locs hI => ?_)
          have hI : kI D _ A s.heap (xrf S145 0 n (some q)) H locs := hI
          generalize hS157 : xrf S145 0 n (some q) = S157 at hI
          refine lv_aload_n hx hb dX1_piece_158 rfl (lv_at hl 4 rfl) ?_
          refine x_get F hI 2 (by decide) rfl flX1_25 dX1_piece_159 ?_
          refine lv_iconst (v := nI 1) hx hb dX1_piece_162 (by decide) ?_
          refine lv_dup2_11 hx hb dX1_piece_163 rfl rfl ?_
          refine x_ald F hI 2 (show 1 < 13 by omega) rfl dX1_piece_164 ?_
          refine lv_iconst (v := nI 1) hx hb dX1_piece_165 (by decide) ?_
          refine lv_iadd hx hb dX1_piece_166 ?_
          refine x_ast F hI 2 (show 1 < 13 by omega) rfl dX1_piece_167 (fun H locs hI => ?_)
          have hI : kI D _ A s.heap (xinc S157 2 1) H locs := hI
          generalize hS167 : xinc S157 2 1 = S167 at hI
          refine lv_aload_n hx hb dX1_piece_168 rfl (lv_at hl 4 rfl) ?_
          refine lv_aload hx hb dX1_piece_169 (lv_at hl 0 rfl) ?_
          refine lv_iload_n hx hb dX1_piece_171 rfl (lv_at hl 6 rfl) ?_
          refine lv_iload_n hx hb dX1_piece_172 rfl (lv_at hl 7 rfl) ?_
          refine lv_iload hx hb dX1_piece_173 (lv_at hl 9 rfl) ?_
          have e1 : S167.2 = (xrf S145 0 n (some q)).2 := by rw [← hS167, ← hS157]; rfl
          have hqm7 : q ∈ S167.2.2.2.1 := by rw [e1]; exact hqm
          have r0 : cf S167 q 0 = nI n := by unfold cf; rw [e1]; exact q0'
          have r1 : cf S167 q 1 = nI sh := by unfold cf; rw [e1]; exact q1'
          have r5 : cf S167 q 5 = nI 0 := by unfold cf; rw [e1]; exact q5'
          have r2 : S167.1 2 2 = nI e' := by rw [← hS167, xinc, xset_a, pk_un (by decide), ← hS157]; exact q2'
          have ef : x_first st q n sh = S167 := by rw [x_first, hS145, hS157, hS167]
          refine kcallV (rest := []) F hA hI (xc_takeIn l _ q pq il z n sh 0 e' hqm7 hp hn hs (by omega) he r0 r1 r5 r2) kgX1_99 (x_rec F hI) hl.1 rfl rfl (Nat.le_of_ble_eq_true rfl) dX1_piece_175 ⟨Nat.le_of_ble_eq_true rfl, Nat.le_of_ble_eq_true rfl⟩ ⟨Nat.le_of_ble_eq_true rfl, Nat.le_of_ble_eq_true rfl⟩ (fun vq uq H locs hp hI => ?_)
          obtain ⟨rfl, hu⟩ := hp
          rw [hu] at hI
          clear hu
          refine kstk (b := .int _ :: []) rfl ?_
          refine W.widen (k := 1) (n := 12) (by omega) (by omega) ?_
          exact kret_i F hI dX1_piece_178 (⟨q, hq, by simp [x_piece, hh, hw, hr, h24, ef], by simp [x_piece, hh, hw, hr, h24, ef]⟩)
        · have hl := hl
          refine lv_aload_n hx hb dX1_piece_41 rfl (lv_at hl 0 rfl) ?_
          refine lv_iload_n hx hb dX1_piece_42 rfl (lv_at hl 1 rfl) ?_
          refine kcallV (rest := []) F hA hI (xc_homeOf l _ n hn) kgX1_63 (x_rec F hI) hl.1 rfl rfl (Nat.le_of_ble_eq_true rfl) dX1_piece_43 ⟨Nat.le_of_ble_eq_true rfl, Nat.le_of_ble_eq_true rfl⟩ ⟨Nat.le_of_ble_eq_true rfl, Nat.le_of_ble_eq_true rfl⟩ (fun vq uq H locs hp hI => ?_)
          obtain ⟨rfl, hu⟩ := hp
          rw [hu] at hI
          clear hu
          refine kstk (b := .int _ :: []) rfl ?_
          refine lv_istore (lv' := [(6, .int _), (0, .ref _), (1, .int _), (2, .int _), (3, .int _), (4, .int _), (5, .int _)]) hx hb dX1_piece_46 hl (by decide) rfl (fun ls hl => ?_)
          refine lv_iload hx hb dX1_piece_48 (lv_at hl 0 rfl) ?_
          refine lv_bipush (v := -9) hx hb dX1_piece_50 (by decide) ?_
          refine lv_icmp_ne (tgt := 64) hx hb dX1_piece_52 (by decide) (fun c52 => ?_) (fun c52 => absurd c52 (hh))
          refine lv_aload_n hx hb dX1_piece_64 rfl (lv_at hl 1 rfl) ?_
          refine x_get F hI 5 (by decide) rfl flX1_38 dX1_piece_65 ?_
          refine lv_iload_n hx hb dX1_piece_68 rfl (lv_at hl 2 rfl) ?_
          refine x_rld F hI 0 (show n < 100 by omega) rfl dX1_piece_69 ?_
          refine kstk (b := .null :: _) (by rw [hw]; rfl) ?_
          refine lv_astoreN (lv' := [(7, .null), (6, .int _), (0, .ref _), (1, .int _), (2, .int _), (3, .int _), (4, .int _), (5, .int _)]) hx hb dX1_piece_70 hl (by decide) rfl (fun ls hl => ?_)
          refine lv_aloadN hx hb dX1_piece_72 (lv_at hl 0 rfl) ?_
          refine lv_ifnullN (tgt := 88) hx hb dX1_piece_74 (by decide) ?_
          refine lv_aload_n hx hb dX1_piece_88 rfl (lv_at hl 2 rfl) ?_
          refine lv_iload_n hx hb dX1_piece_89 rfl (lv_at hl 3 rfl) ?_
          refine kcallV (rest := []) F hA hI (xc_recall l _ n hn hD) kgX1_88 (x_rec F hI) hl.1 rfl rfl (Nat.le_of_ble_eq_true rfl) dX1_piece_90 ⟨Nat.le_of_ble_eq_true rfl, Nat.le_of_ble_eq_true rfl⟩ ⟨Nat.le_of_ble_eq_true rfl, Nat.le_of_ble_eq_true rfl⟩ (fun vq uq H locs hp hI => ?_)
          obtain ⟨rfl, hu⟩ := hp
          rw [hu] at hI
          clear hu
          refine kstk (b := .null :: []) (by rw [hr]; rfl) ?_
          refine lv_astoreN (lv' := [(8, .null), (7, .null), (6, .int _), (0, .ref _), (1, .int _), (2, .int _), (3, .int _), (4, .int _), (5, .int _)]) hx hb dX1_piece_93 hl (by decide) rfl (fun ls hl => ?_)
          refine lv_aloadN hx hb dX1_piece_95 (lv_at hl 0 rfl) ?_
          refine lv_ifnullN (tgt := 110) hx hb dX1_piece_97 (by decide) ?_
          refine lv_aload_n hx hb dX1_piece_110 rfl (lv_at hl 3 rfl) ?_
          refine x_get F hI 2 (by decide) rfl flX1_25 dX1_piece_111 ?_
          refine lv_iconst (v := nI 1) hx hb dX1_piece_114 (by decide) ?_
          refine x_ald F hI 2 (show 1 < 13 by omega) rfl dX1_piece_115 ?_
          refine lv_bipush (v := nI 24) hx hb dX1_piece_116 (by decide) ?_
          refine lv_icmp_lt (tgt := 130) hx hb dX1_piece_118 (by decide) (fun c118 => absurd c118 (h24)) (fun c118 => ?_)
          refine lv_aload_n hx hb dX1_piece_121 rfl (lv_at hl 3 rfl) ?_
          refine lv_bipush (v := nI 9) hx hb dX1_piece_122 (by decide) ?_
          refine lv_bipush (v := nI 7) hx hb dX1_piece_124 (by decide) ?_
          refine kcallV (rest := []) F hA hI (xc_counted l _ 9 (nI 7) (by decide)) kgX1_80 (x_rec F hI) hl.1 rfl rfl (Nat.le_of_ble_eq_true rfl) dX1_piece_126 ⟨Nat.le_of_ble_eq_true rfl, Nat.le_of_ble_eq_true rfl⟩ ⟨Nat.le_of_ble_eq_true rfl, Nat.le_of_ble_eq_true rfl⟩ (fun vq uq H locs hp hI => ?_)
          obtain ⟨rfl, hu⟩ := hp
          rw [hu] at hI
          clear hu
          refine kstk (b := .int _ :: []) rfl ?_
          refine W.widen (k := 1) (n := 12) (by omega) (by omega) ?_
          exact kret_i F hI dX1_piece_129 (⟨q0, hq0, by simp [x_piece, hh, hw, hr, h24], by simp [x_piece, hh, hw, hr, h24]⟩)
      · have ha : a ∈ st.2.2.2.1 := by
          unfold x_recall at hr
          cases hd : st.2.1 1 n with
          | none => rw [hd] at hr; cases hr
          | some b =>
            rw [hd] at hr
            dsimp only at hr
            split at hr
            · cases hr; exact hD a hd
            · cases hr
        refine lv_aload_n hx hb dX1_piece_41 rfl (lv_at hl 0 rfl) ?_
        refine lv_iload_n hx hb dX1_piece_42 rfl (lv_at hl 1 rfl) ?_
        refine kcallV (rest := []) F hA hI (xc_homeOf l _ n hn) kgX1_63 (x_rec F hI) hl.1 rfl rfl (Nat.le_of_ble_eq_true rfl) dX1_piece_43 ⟨Nat.le_of_ble_eq_true rfl, Nat.le_of_ble_eq_true rfl⟩ ⟨Nat.le_of_ble_eq_true rfl, Nat.le_of_ble_eq_true rfl⟩ (fun vq uq H locs hp hI => ?_)
        obtain ⟨rfl, hu⟩ := hp
        rw [hu] at hI
        clear hu
        refine kstk (b := .int _ :: []) rfl ?_
        refine lv_istore (lv' := [(6, .int _), (0, .ref _), (1, .int _), (2, .int _), (3, .int _), (4, .int _), (5, .int _)]) hx hb dX1_piece_46 hl (by decide) rfl (fun ls hl => ?_)
        refine lv_iload hx hb dX1_piece_48 (lv_at hl 0 rfl) ?_
        refine lv_bipush (v := -9) hx hb dX1_piece_50 (by decide) ?_
        refine lv_icmp_ne (tgt := 64) hx hb dX1_piece_52 (by decide) (fun c52 => ?_) (fun c52 => absurd c52 (hh))
        refine lv_aload_n hx hb dX1_piece_64 rfl (lv_at hl 1 rfl) ?_
        refine x_get F hI 5 (by decide) rfl flX1_38 dX1_piece_65 ?_
        refine lv_iload_n hx hb dX1_piece_68 rfl (lv_at hl 2 rfl) ?_
        refine x_rld F hI 0 (show n < 100 by omega) rfl dX1_piece_69 ?_
        refine kstk (b := .null :: _) (by rw [hw]; rfl) ?_
        refine lv_astoreN (lv' := [(7, .null), (6, .int _), (0, .ref _), (1, .int _), (2, .int _), (3, .int _), (4, .int _), (5, .int _)]) hx hb dX1_piece_70 hl (by decide) rfl (fun ls hl => ?_)
        refine lv_aloadN hx hb dX1_piece_72 (lv_at hl 0 rfl) ?_
        refine lv_ifnullN (tgt := 88) hx hb dX1_piece_74 (by decide) ?_
        refine lv_aload_n hx hb dX1_piece_88 rfl (lv_at hl 2 rfl) ?_
        refine lv_iload_n hx hb dX1_piece_89 rfl (lv_at hl 3 rfl) ?_
        refine kcallV (rest := []) F hA hI (xc_recall l _ n hn hD) kgX1_88 (x_rec F hI) hl.1 rfl rfl (Nat.le_of_ble_eq_true rfl) dX1_piece_90 ⟨Nat.le_of_ble_eq_true rfl, Nat.le_of_ble_eq_true rfl⟩ ⟨Nat.le_of_ble_eq_true rfl, Nat.le_of_ble_eq_true rfl⟩ (fun vq uq H locs hp hI => ?_)
        obtain ⟨rfl, hu⟩ := hp
        rw [hu] at hI
        clear hu
        refine kstk (b := .ref a :: []) (by rw [hr]; rfl) ?_
        refine lv_astore (lv' := [(8, .ref _), (7, .null), (6, .int _), (0, .ref _), (1, .int _), (2, .int _), (3, .int _), (4, .int _), (5, .int _)]) hx hb dX1_piece_93 hl (by decide) rfl (fun ls hl => ?_)
        refine lv_aload hx hb dX1_piece_95 (lv_at hl 0 rfl) ?_
        refine lv_ifnull hx hb dX1_piece_97 ?_
        refine lv_aload_n hx hb dX1_piece_100 rfl (lv_at hl 3 rfl) ?_
        refine lv_aload hx hb dX1_piece_101 (lv_at hl 0 rfl) ?_
        refine lv_iload_n hx hb dX1_piece_103 rfl (lv_at hl 5 rfl) ?_
        refine lv_iload hx hb dX1_piece_104 (lv_at hl 8 rfl) ?_
        refine kcallV (rest := []) F hA hI (xc_hearD l _ a pq z hp ha) kgX1_92 (x_rec F hI) hl.1 rfl rfl (Nat.le_of_ble_eq_true rfl) dX1_piece_106 ⟨Nat.le_of_ble_eq_true rfl, Nat.le_of_ble_eq_true rfl⟩ ⟨Nat.le_of_ble_eq_true rfl, Nat.le_of_ble_eq_true rfl⟩ (fun vq uq H locs hp hI => ?_)
        obtain ⟨rfl, hu⟩ := hp
        rw [hu] at hI
        clear hu
        refine kstk (b := .int _ :: []) rfl ?_
        refine W.widen (k := 1) (n := 12) (by omega) (by omega) ?_
        exact kret_i F hI dX1_piece_109 (⟨q0, hq0, by simp [x_piece, hh, hw, hr], by simp [x_piece, hh, hw, hr]⟩)
    · have hl := hl
      refine lv_aload_n hx hb dX1_piece_41 rfl (lv_at hl 0 rfl) ?_
      refine lv_iload_n hx hb dX1_piece_42 rfl (lv_at hl 1 rfl) ?_
      refine kcallV (rest := []) F hA hI (xc_homeOf l _ n hn) kgX1_63 (x_rec F hI) hl.1 rfl rfl (Nat.le_of_ble_eq_true rfl) dX1_piece_43 ⟨Nat.le_of_ble_eq_true rfl, Nat.le_of_ble_eq_true rfl⟩ ⟨Nat.le_of_ble_eq_true rfl, Nat.le_of_ble_eq_true rfl⟩ (fun vq uq H locs hp hI => ?_)
      obtain ⟨rfl, hu⟩ := hp
      rw [hu] at hI
      clear hu
      refine kstk (b := .int _ :: []) rfl ?_
      refine lv_istore (lv' := [(6, .int _), (0, .ref _), (1, .int _), (2, .int _), (3, .int _), (4, .int _), (5, .int _)]) hx hb dX1_piece_46 hl (by decide) rfl (fun ls hl => ?_)
      refine lv_iload hx hb dX1_piece_48 (lv_at hl 0 rfl) ?_
      refine lv_bipush (v := -9) hx hb dX1_piece_50 (by decide) ?_
      refine lv_icmp_ne (tgt := 64) hx hb dX1_piece_52 (by decide) (fun c52 => ?_) (fun c52 => absurd c52 (hh))
      refine lv_aload_n hx hb dX1_piece_64 rfl (lv_at hl 1 rfl) ?_
      refine x_get F hI 5 (by decide) rfl flX1_38 dX1_piece_65 ?_
      refine lv_iload_n hx hb dX1_piece_68 rfl (lv_at hl 2 rfl) ?_
      refine x_rld F hI 0 (show n < 100 by omega) rfl dX1_piece_69 ?_
      refine kstk (b := .ref a :: _) (by rw [hw]; rfl) ?_
      refine lv_astore (lv' := [(7, .ref _), (6, .int _), (0, .ref _), (1, .int _), (2, .int _), (3, .int _), (4, .int _), (5, .int _)]) hx hb dX1_piece_70 hl (by decide) rfl (fun ls hl => ?_)
      refine lv_aload hx hb dX1_piece_72 (lv_at hl 0 rfl) ?_
      refine lv_ifnull hx hb dX1_piece_74 ?_
      refine lv_aload_n hx hb dX1_piece_77 rfl (lv_at hl 2 rfl) ?_
      refine lv_aload hx hb dX1_piece_78 (lv_at hl 0 rfl) ?_
      refine lv_iload_n hx hb dX1_piece_80 rfl (lv_at hl 4 rfl) ?_
      refine lv_iload_n hx hb dX1_piece_81 rfl (lv_at hl 5 rfl) ?_
      refine lv_iload hx hb dX1_piece_82 (lv_at hl 7 rfl) ?_
      refine kcallV (rest := []) F hA hI (xc_hearW l _ a pq il z n e' hp hn he (hW a hw) h2) kgX1_84 (x_rec F hI) hl.1 rfl rfl (Nat.le_of_ble_eq_true rfl) dX1_piece_84 ⟨Nat.le_of_ble_eq_true rfl, Nat.le_of_ble_eq_true rfl⟩ ⟨Nat.le_of_ble_eq_true rfl, Nat.le_of_ble_eq_true rfl⟩ (fun vq uq H locs hp hI => ?_)
      obtain ⟨rfl, hu⟩ := hp
      rw [hu] at hI
      clear hu
      refine kstk (b := .int _ :: []) rfl ?_
      refine W.widen (k := 1) (n := 12) (by omega) (by omega) ?_
      exact kret_i F hI dX1_piece_87 (⟨q0, hq0, by simp [x_piece, hh, hw], by simp [x_piece, hh, hw]⟩)
  refine lv_iload_n hx hb dX1_piece_0 rfl (lv_at hl 1 rfl) ?_
  refine lv_bipush (v := nI 100) hx hb dX1_piece_1 (by decide) ?_
  refine kcallS (rest := []) F hA hI (xc_isBelow l _ _ _) kgX1_52 hl.1 rfl rfl (Nat.le_of_ble_eq_true rfl) dX1_piece_3 ⟨Nat.le_of_ble_eq_true rfl, Nat.le_of_ble_eq_true rfl⟩ ⟨Nat.le_of_ble_eq_true rfl, Nat.le_of_ble_eq_true rfl⟩ (fun vq uq H locs hp hI => ?_)
  obtain ⟨rfl, hu⟩ := hp
  rw [hu] at hI
  clear hu
  refine kstk (b := .int _ :: []) rfl ?_
  refine lv_if_eq (tgt := 39) hx hb dX1_piece_6 (by decide) (fun c6 => absurd c6 ((fun q => by rw [bI_z, g1] at q; cases q))) (fun c6 => ?_)
  refine lv_iload_n hx hb dX1_piece_9 rfl (lv_at hl 2 rfl) ?_
  refine lv_bipush (v := nI 8) hx hb dX1_piece_10 (by decide) ?_
  refine kcallS (rest := []) F hA hI (xc_isBelow l _ _ _) kgX1_52 hl.1 rfl rfl (Nat.le_of_ble_eq_true rfl) dX1_piece_12 ⟨Nat.le_of_ble_eq_true rfl, Nat.le_of_ble_eq_true rfl⟩ ⟨Nat.le_of_ble_eq_true rfl, Nat.le_of_ble_eq_true rfl⟩ (fun vq uq H locs hp hI => ?_)
  obtain ⟨rfl, hu⟩ := hp
  rw [hu] at hI
  clear hu
  refine kstk (b := .int _ :: []) rfl ?_
  refine lv_if_eq (tgt := 39) hx hb dX1_piece_15 (by decide) (fun c15 => absurd c15 ((fun q => by rw [bI_z, g2] at q; cases q))) (fun c15 => ?_)
  refine lv_iload hx hb dX1_piece_18 (lv_at hl 4 rfl) ?_
  refine lv_iconst (v := nI 5) hx hb dX1_piece_20 (by decide) ?_
  refine kcallS (rest := []) F hA hI (xc_isBelow l _ _ _) kgX1_52 hl.1 rfl rfl (Nat.le_of_ble_eq_true rfl) dX1_piece_21 ⟨Nat.le_of_ble_eq_true rfl, Nat.le_of_ble_eq_true rfl⟩ ⟨Nat.le_of_ble_eq_true rfl, Nat.le_of_ble_eq_true rfl⟩ (fun vq uq H locs hp hI => ?_)
  obtain ⟨rfl, hu⟩ := hp
  rw [hu] at hI
  clear hu
  refine kstk (b := .int _ :: []) rfl ?_
  refine lv_if_eq (tgt := 39) hx hb dX1_piece_24 (by decide) (fun c24 => absurd c24 ((fun q => by rw [bI_z, g3] at q; cases q))) (fun c24 => ?_)
  refine lv_iload hx hb dX1_piece_27 (lv_at hl 5 rfl) ?_
  refine lv_iconst (v := nI 1) hx hb dX1_piece_29 (by decide) ?_
  refine lv_sipush (v := nI 1000) hx hb dX1_piece_30 (by decide) ?_
  refine kcallS (rest := []) F hA hI (xc_isWithin l _ _ _ _) kgX1_73 hl.1 rfl rfl (Nat.le_of_ble_eq_true rfl) dX1_piece_33 ⟨Nat.le_of_ble_eq_true rfl, Nat.le_of_ble_eq_true rfl⟩ ⟨Nat.le_of_ble_eq_true rfl, Nat.le_of_ble_eq_true rfl⟩ (fun vq uq H locs hp hI => ?_)
  obtain ⟨rfl, hu⟩ := hp
  rw [hu] at hI
  clear hu
  refine kstk (b := .int _ :: []) rfl ?_
  refine lv_if_ne (tgt := 41) hx hb dX1_piece_36 (by decide) (fun c36 => ?_) (fun c36 => absurd c36 ((fun q => by rw [bI_z, g4] at q; cases q)))
  exact h41 _ _ _ hI hl
end XC3
end
section
/-! the class: keepers, ticks -/
def x_lose1 (st : XS) (k n : Nat) : XS := match st.2.1 0 n with
  | none => st
  | some a => if cf st a 3 = nI k then xinc (x_stop st n) 2 3 else st
def x_loseL (k : Nat) : Nat → Nat → XS → XS
  | 0, _, st => st
  | f + 1, n, st => x_loseL k f (n + 1) (x_lose1 st k n)
def x_move1 (st : XS) (n : Nat) : XS := match st.2.1 0 n with
  | none => st
  | some a => if hm (x_up st) n = cf st a 3 then st else xinc (xc st a 3 (hm (x_up st) n)) 2 4
def x_moveL : Nat → Nat → XS → XS
  | 0, _, st => st
  | f + 1, n, st => x_moveL f (n + 1) (x_move1 st n)
def x_kset (st : XS) (k : Nat) (up : Bool) : XS := xadd (xset st 0 k (bI up)) 2 12 (if up = true then nI 1 else -1)
def x_keeper (st : XS) (k : Nat) (up : Bool) : Int32 × XS :=
  if st.1 0 k = bI up then (nI 0, st) else (nI 1, x_moveL 100 0 (if up = true then x_kset st k up else x_loseL k 100 0 (x_kset st k up)))
def xwt (st : XS) : Prop := ∀ n, n < 100 → ∀ a, st.2.1 0 n = some a → a ∈ st.2.2.2.1 ∧ cf st a 0 = nI n
theorem xwt_lose1 {st : XS} (k n : Nat) (h : xwt st) : xwt (x_lose1 st k n) := by
  unfold x_lose1
  split
  · exact h
  · split
    · intro j hj a ha
      have e : (xinc (x_stop st n) 2 3).2.1 0 j = (va_up (st.2.1 0) n none) j := rfl
      rw [e] at ha
      by_cases q : j = n
      · subst q; rw [va_up_self] at ha; cases ha
      · rw [va_up_ne _ _ q] at ha; exact h j hj a ha
    · exact h
theorem xwt_loseL (k : Nat) : ∀ (f n : Nat) (st : XS), xwt st → xwt (x_loseL k f n st) := by
  intro f
  induction f with
  | zero => intro n st h; exact h
  | succ f ih => intro n st h; exact ih (n + 1) _ (xwt_lose1 k n h)
theorem xwt_move1 {st : XS} (n : Nat) (h : xwt st) : xwt (x_move1 st n) := by
  unfold x_move1
  split
  · exact h
  · split
    · exact h
    · intro j hj b hb
      exact ⟨(h j hj b hb).1, (cf_ne (by decide)).trans (h j hj b hb).2⟩
/-- what a tick needs of the state -/
def xokT (st : XS) : Prop := (∀ n, n < 100 → ∀ a, st.2.1 0 n = some a → a ∈ st.2.2.2.1 ∧ cf st a 0 = nI n ∧ ∃ sh z, sh < 5 ∧ z < 8192 ∧ cf st a 1 = nI sh ∧ cf st a 5 = nI z) ∧ ∃ e, e ≤ 20 ∧ st.1 2 2 = nI e
def x_tkK (st : XS) (n : Nat) : XS := match st.2.1 0 n with
  | none => st
  | some a => if st.1 2 0 - cf st a 2 < st.1 1 4 then st else x_dec st a true
def x_tkN : Nat → Nat → XS → XS
  | 0, _, st => st
  | f + 1, n, st => x_tkN f (n + 1) (x_tkK st n)
def x_tk1 (st : XS) : XS := x_tkN 100 0 (xinc st 2 0)
def x_tkL : Nat → XS → XS
  | 0, st => st
  | f + 1, st => x_tkL f (x_tk1 st)
theorem x_keepS_2 (st : XS) (a sh e : Nat) (w : Int32) : (x_keepS st a sh e w).2.2.2.1 = st.2.2.2.1 ∧ (x_keepS st a sh e w).2.1 0 = st.2.1 0 ∧ ∀ b f, f ≠ 10 → cf (x_keepS st a sh e w) b f = cf st b f := by
  unfold x_keepS
  split
  · exact ⟨rfl, rfl, fun _ _ _ => rfl⟩
  · exact ⟨rfl, rfl, fun b f hf => cf_ne (st := xinc (xrf st 2 e (some a)) 2 2) hf⟩
theorem x_keepS_e (st : XS) (a sh e : Nat) (w : Int32) (he : e ≤ 20) (h2 : st.1 2 2 = nI e) : ∃ e2, e2 ≤ 20 ∧ (x_keepS st a sh e w).1 2 2 = nI e2 := by
  unfold x_keepS
  split
  · exact ⟨e, he, by rw [xadd, xset_k (by omega)]; exact h2⟩
  · refine ⟨e + 1, by omega, ?_⟩
    rw [xadd, xset_k (by omega)]
    show (xinc (xrf st 2 e (some a)) 2 2).1 2 2 = _
    rw [xinc, xset_s]
    show st.1 2 2 + nI 1 = _
    rw [h2, nI_add]
theorem x_d2_2 (st : XS) (sh z : Nat) (tn : Bool) : (x_d2 st sh z tn).2 = st.2 := by
  unfold x_d2 x_tn
  split <;> rfl
theorem x_d2_e (st : XS) (sh z : Nat) (tn : Bool) : (x_d2 st sh z tn).1 2 2 = st.1 2 2 := by
  unfold x_d2 x_tn
  split
  · rw [xinc, xset_a, pk_un (by decide), xinc, xset_a, pk_un (by decide), xinc, xset_k (by decide), xinc, xset_k (by omega)]
  · rw [xinc, xset_a, pk_un (by decide), xinc, xset_k (by decide), xinc, xset_k (by omega)]
theorem x_decS_2 (st : XS) (a n sh z : Nat) (tn : Bool) (e : Nat) : (x_decS st a n sh z tn e).2.2.2.1 = st.2.2.2.1 ∧ (x_decS st a n sh z tn e).2.1 0 = va_up (st.2.1 0) n none ∧ ∀ b f, f < 7 ∨ f = 11 → cf (x_decS st a n sh z tn e) b f = cf st b f := by
  unfold x_decS
  have hw := x_only_weigh (x_d1 st a n tn) sh (nI z) tn
  generalize x_weigh (x_d1 st a n tn) sh (nI z) tn = w at hw ⊢
  have key : ∀ u : XS, u.2 = (xc w.2 a 8 w.1).2 → u.2.2.2.1 = st.2.2.2.1 ∧ u.2.1 0 = va_up (st.2.1 0) n none ∧ ∀ b f, f < 7 ∨ f = 11 → cf u b f = cf st b f := by
    intro u hu
    refine ⟨?_, ?_, fun b f hf => ?_⟩
    · rw [hu]; show w.2.2.2.2.1 = _; rw [hw.2.1]; rfl
    · rw [hu]; show w.2.2.1 0 = _; rw [hw.1]; rfl
    · unfold cf
      rw [hu]
      show cf (xc w.2 a 8 w.1) b f = _
      rw [cf_ne (by omega)]
      unfold cf
      rw [hw.2.1]
      show cf (x_d1 st a n tn) b f = _
      rw [x_d1, xcnow, cf_ne (by omega), cf_ne (by omega)]
      rfl
  have h1 := key _ (x_d2_2 (xc w.2 a 8 w.1) sh z tn)
  unfold x_fin
  split
  · exact h1
  · have h2 := x_keepS_2 (x_d2 (xc w.2 a 8 w.1) sh z tn) a sh e w.1
    exact ⟨h2.1.trans h1.1, h2.2.1.trans h1.2.1, fun b f hf => (h2.2.2 b f (by omega)).trans (h1.2.2 b f hf)⟩
theorem x_decS_e (st : XS) (a n sh z : Nat) (tn : Bool) (e : Nat) (he : e ≤ 20) (h2 : st.1 2 2 = nI e) : ∃ e2, e2 ≤ 20 ∧ (x_decS st a n sh z tn e).1 2 2 = nI e2 := by
  unfold x_decS
  have hw := x_only_weigh (x_d1 st a n tn) sh (nI z) tn
  generalize x_weigh (x_d1 st a n tn) sh (nI z) tn = w at hw ⊢
  have h1 : (x_d2 (xc w.2 a 8 w.1) sh z tn).1 2 2 = nI e := by
    rw [x_d2_e]
    show w.2.1 2 2 = _
    rw [hw.2.2 2 (by decide)]
    show (x_stop st n).1 2 2 = _
    rw [x_stop, xsub, xset_a, pk_un (by decide)]
    exact h2
  unfold x_fin
  split
  · exact ⟨e, he, h1⟩
  · exact x_keepS_e _ _ _ _ _ he h1
theorem xokT_dec {st : XS} {n a : Nat} (tn : Bool) (hn : n < 100) (ha : st.2.1 0 n = some a) (h : xokT st) : xokT (x_dec st a tn) := by
  obtain ⟨q1, q2, q3, z3, q4⟩ := h.1 n hn a ha
  obtain ⟨e, he, h2⟩ := h.2
  have hd : x_dec st a tn = x_decS st a n (cf st a 1).toNatClampNeg (cf st a 5).toNatClampNeg tn e := by rw [x_dec, q2, h2, nI_clamp (by omega), nI_clamp (by omega)]
  rw [hd]
  have k := x_decS_2 st a n (cf st a 1).toNatClampNeg (cf st a 5).toNatClampNeg tn e
  refine ⟨fun j hj b hb => ?_, x_decS_e _ _ _ _ _ _ _ he h2⟩
  rw [k.2.1] at hb
  by_cases e1 : j = n
  · subst e1; rw [va_up_self] at hb; cases hb
  · rw [va_up_ne _ _ e1] at hb
    obtain ⟨r1, r2, r3⟩ := h.1 j hj b hb
    rw [k.1, k.2.2 b 0 (by omega), k.2.2 b 1 (by omega), k.2.2 b 5 (by omega)]
    exact ⟨r1, r2, r3⟩
theorem xokT_now {st : XS} (h : xokT st) : xokT (xinc st 2 0) := by
  refine ⟨h.1, ?_⟩
  obtain ⟨e, he, h2⟩ := h.2
  exact ⟨e, he, by rw [xinc, xset_a, pk_un (by decide)]; exact h2⟩
theorem xokT_tkN : ∀ (f n : Nat) (st : XS), n + f = 100 → xokT st → xokT (x_tkN f n st) := by
  intro f
  induction f with
  | zero => intro n st _ h; exact h
  | succ f ih =>
    intro n st hn h
    refine ih (n + 1) _ (by omega) ?_
    unfold x_tkK
    split
    · exact h
    · split
      · exact h
      · exact xokT_dec (n := n) true (by omega) (by assumption) h
theorem xokT_tk1 {st : XS} (h : xokT st) : xokT (x_tk1 st) := by
  unfold x_tk1
  exact xokT_tkN 100 0 _ (by decide) (xokT_now h)
theorem x_tkL_s (f : Nat) (st : XS) : x_tkL (f + 1) st = x_tkL f (x_tk1 st) := by rw [x_tkL]
section XC4
variable (l : Launch) {D : va_G} {g : Nat → Nat} {K : Nat → ClassId}
theorem xc_lose (st : XS) (k : Nat) (hk : k < 4) (hok : xwt st) : kM l yX1_loseCallsAt cX1_loseCallsAt 4 none 1 21 0 0 D (xty K) (xw g K) [.ref (g 0), .int (nI k)] st (fun v u => v = none ∧ u = x_loseL k 100 0 st) := by
  refine kM_intro (by decide) (Nat.le_of_ble_eq_true rfl) ?_
  intro p e s m below meth c A ls F hA hI hl
  obtain ⟨hx, hb, hr, hml, hown, hts, hlk, hK, hnm⟩ := id F
  have hl : lv_has ls 4 [(0, .ref (g 0)), (1, .int (nI k))] := hl
  refine lv_iconst (v := nI 0) hx hb dX1_loseCallsAt_0 (by decide) ?_
  refine lv_istore_n (lv' := [(2, .int _), (0, .ref _), (1, .int _)]) hx hb dX1_loseCallsAt_1 rfl hl (by decide) rfl (fun ls hl => ?_)
  refine wloop (σ := Nat × Nat × XS) (fun x => x.1) (fun x H locs ls => x.2.1 + x.1 = 100 ∧ x_loseL k x.1 x.2.1 x.2.2 = x_loseL k 100 0 st ∧ xwt x.2.2 ∧ kI D (xw g K) A s.heap x.2.2 H locs ∧ lv_has ls 4 [(2, .int (nI x.2.1)), (0, .ref (g 0)), (1, .int (nI k))]) ?_ (100, 0, st) _ _ _ ⟨rfl, rfl, hok, hI, lv_sub hl [0, 1, 2] rfl⟩
  rintro ⟨f, n, u⟩ H locs ls ⟨hkn, he, hok, hI, hl⟩ ih
  dsimp only at hkn he hok hI hl ih
  cases f with
  | zero =>
    have he : u = x_loseL k 100 0 st := he
    refine lv_iload_n hx hb dX1_loseCallsAt_2 rfl (lv_at hl 0 rfl) ?_
    refine lv_bipush (v := nI 100) hx hb dX1_loseCallsAt_3 (by decide) ?_
    refine lv_icmp_ge (tgt := 48) hx hb dX1_loseCallsAt_5 (by decide) (fun c5 => ?_) (fun c5 => absurd c5 ((fun q => q (nI_le (by omega) (by omega)))))
    rw [nI_leI (by omega) (by omega)] at c5
    exact kret_v F hI dX1_loseCallsAt_48 (⟨rfl, he⟩)
  | succ f =>
    rcases ho : u.2.1 0 n with _ | a
    · have hl := hl
      refine lv_iload_n hx hb dX1_loseCallsAt_2 rfl (lv_at hl 0 rfl) ?_
      refine lv_bipush (v := nI 100) hx hb dX1_loseCallsAt_3 (by decide) ?_
      refine lv_icmp_ge (tgt := 48) hx hb dX1_loseCallsAt_5 (by decide) (fun c5 => absurd c5 ((nI_ge (show n < 100 by omega) (by decide)))) (fun c5 => ?_)
      rw [nI_leI (by omega) (by omega)] at c5
      refine lv_aload_n hx hb dX1_loseCallsAt_8 rfl (lv_at hl 1 rfl) ?_
      refine x_get F hI 5 (by decide) rfl flX1_38 dX1_loseCallsAt_9 ?_
      refine lv_iload_n hx hb dX1_loseCallsAt_12 rfl (lv_at hl 0 rfl) ?_
      refine x_rld F hI 0 (show n < 100 by omega) rfl dX1_loseCallsAt_13 ?_
      refine kstk (b := .null :: _) (by rw [ho]; rfl) ?_
      refine lv_astore_nN (lv' := [(3, .null), (2, .int _), (0, .ref _), (1, .int _)]) hx hb dX1_loseCallsAt_14 rfl hl (by decide) rfl (fun ls hl => ?_)
      refine lv_aload_nN hx hb dX1_loseCallsAt_15 rfl (lv_at hl 0 rfl) ?_
      refine lv_ifnullN (tgt := 42) hx hb dX1_loseCallsAt_16 (by decide) ?_
      refine lv_iinc (v := nI (n + 1)) (lv' := [(2, .int _), (3, .null), (0, .ref _), (1, .int _)]) hx hb dX1_loseCallsAt_42 hl (k := 1) rfl (kinc _ 1) (by decide) rfl (fun ls hl => ?_)
      refine lv_goto (tgt := 2) hx hb dX1_loseCallsAt_45 (by decide) ?_
      exact ih (f, n + 1, u) _ _ _ (by show f < f + 1; omega) ⟨by show n + 1 + f = _; omega, by rw [← he]; simp [x_loseL, x_lose1, ho], hok, hI, lv_sub hl [0, 2, 3] rfl⟩
    · obtain ⟨ha, h0⟩ := hok n (by omega) a ho
      have hok2 := xwt_lose1 k n hok
      refine lv_iload_n hx hb dX1_loseCallsAt_2 rfl (lv_at hl 0 rfl) ?_
      refine lv_bipush (v := nI 100) hx hb dX1_loseCallsAt_3 (by decide) ?_
      refine lv_icmp_ge (tgt := 48) hx hb dX1_loseCallsAt_5 (by decide) (fun c5 => absurd c5 ((nI_ge (show n < 100 by omega) (by decide)))) (fun c5 => ?_)
      rw [nI_leI (by omega) (by omega)] at c5
      refine lv_aload_n hx hb dX1_loseCallsAt_8 rfl (lv_at hl 1 rfl) ?_
      refine x_get F hI 5 (by decide) rfl flX1_38 dX1_loseCallsAt_9 ?_
      refine lv_iload_n hx hb dX1_loseCallsAt_12 rfl (lv_at hl 0 rfl) ?_
      refine x_rld F hI 0 (show n < 100 by omega) rfl dX1_loseCallsAt_13 ?_
      refine kstk (b := .ref a :: _) (by rw [ho]; rfl) ?_
      refine lv_astore_n (lv' := [(3, .ref _), (2, .int _), (0, .ref _), (1, .int _)]) hx hb dX1_loseCallsAt_14 rfl hl (by decide) rfl (fun ls hl => ?_)
      refine lv_aload_n hx hb dX1_loseCallsAt_15 rfl (lv_at hl 0 rfl) ?_
      refine lv_ifnull hx hb dX1_loseCallsAt_16 ?_
      refine lv_aload_n hx hb dX1_loseCallsAt_19 rfl (lv_at hl 0 rfl) ?_
      refine x_cget F hI ha 3 (by decide) rfl flX1_105 dX1_loseCallsAt_20 ?_
      refine lv_iload_n hx hb dX1_loseCallsAt_23 rfl (lv_at hl 3 rfl) ?_
      refine lv_icmp_ne (tgt := 42) hx hb dX1_loseCallsAt_24 (by decide) (fun c24 => ?_) (fun c24 => ?_)
      ·
        refine lv_iinc (v := nI (n + 1)) (lv' := [(2, .int _), (3, .ref _), (0, .ref _), (1, .int _)]) hx hb dX1_loseCallsAt_42 hl (k := 1) rfl (kinc _ 1) (by decide) rfl (fun ls hl => ?_)
        refine lv_goto (tgt := 2) hx hb dX1_loseCallsAt_45 (by decide) ?_
        exact ih (f, n + 1, u) _ _ _ (by show f < f + 1; omega) ⟨by show n + 1 + f = _; omega, by rw [← he]; simp [x_loseL, x_lose1, ho, c24], hok, hI, lv_sub hl [0, 2, 3] rfl⟩
      ·
        refine lv_aload_n hx hb dX1_loseCallsAt_27 rfl (lv_at hl 2 rfl) ?_
        refine lv_aload_n hx hb dX1_loseCallsAt_28 rfl (lv_at hl 0 rfl) ?_
        refine kcallV (rest := []) F hA hI (xc_stop l _ a n ha (by omega) h0) kgX1_152 (x_rec F hI) hl.1 rfl rfl (Nat.le_of_ble_eq_true rfl) dX1_loseCallsAt_29 ⟨Nat.le_of_ble_eq_true rfl, Nat.le_of_ble_eq_true rfl⟩ ⟨Nat.le_of_ble_eq_true rfl, Nat.le_of_ble_eq_true rfl⟩ (fun vq uq H locs hp hI => ?_)
        obtain ⟨rfl, hu⟩ := hp
        rw [hu] at hI
        clear hu
        refine kstk (b := []) rfl ?_
        refine lv_aload_n hx hb dX1_loseCallsAt_32 rfl (lv_at hl 2 rfl) ?_
        refine x_get F hI 2 (by decide) rfl flX1_25 dX1_loseCallsAt_33 ?_
        refine lv_iconst (v := nI 3) hx hb dX1_loseCallsAt_36 (by decide) ?_
        refine lv_dup2_11 hx hb dX1_loseCallsAt_37 rfl rfl ?_
        refine x_ald F hI 2 (show 3 < 13 by omega) rfl dX1_loseCallsAt_38 ?_
        refine lv_iconst (v := nI 1) hx hb dX1_loseCallsAt_39 (by decide) ?_
        refine lv_iadd hx hb dX1_loseCallsAt_40 ?_
        refine x_ast F hI 2 (show 3 < 13 by omega) rfl dX1_loseCallsAt_41 (fun H locs hI => ?_)
        have hI : kI D _ A s.heap (xinc (x_stop u n) 2 3) H locs := hI
        generalize hS41 : xinc (x_stop u n) 2 3 = S41 at hI
        refine lv_iinc (v := nI (n + 1)) (lv' := [(2, .int _), (3, .ref _), (0, .ref _), (1, .int _)]) hx hb dX1_loseCallsAt_42 hl (k := 1) rfl (kinc _ 1) (by decide) rfl (fun ls hl => ?_)
        refine lv_goto (tgt := 2) hx hb dX1_loseCallsAt_45 (by decide) ?_
        exact ih (f, n + 1, S41) _ _ _ (by show f < f + 1; omega) ⟨by show n + 1 + f = _; omega, by rw [← he]; simp [x_loseL, x_lose1, ho, c24, hS41], by rw [← hS41]; simpa [x_lose1, ho, c24] using hok2, hI, lv_sub hl [0, 2, 3] rfl⟩
theorem xc_move (st : XS) (hok : xwt st) : kM l yX1_moveCallsHome cX1_moveCallsHome 4 none 1 25 0 0 D (xty K) (xw g K) [.ref (g 0)] st (fun v u => v = none ∧ u = x_moveL 100 0 st) := by
  refine kM_intro (by decide) (Nat.le_of_ble_eq_true rfl) ?_
  intro p e s m below meth c A ls F hA hI hl
  obtain ⟨hx, hb, hr, hml, hown, hts, hlk, hK, hnm⟩ := id F
  have hl : lv_has ls 4 [(0, .ref (g 0))] := hl
  refine lv_iconst (v := nI 0) hx hb dX1_moveCallsHome_0 (by decide) ?_
  refine lv_istore_n (lv' := [(1, .int _), (0, .ref _)]) hx hb dX1_moveCallsHome_1 rfl hl (by decide) rfl (fun ls hl => ?_)
  refine wloop (σ := Nat × Nat × XS) (fun x => x.1) (fun x H locs ls => x.2.1 + x.1 = 100 ∧ x_moveL x.1 x.2.1 x.2.2 = x_moveL 100 0 st ∧ xwt x.2.2 ∧ kI D (xw g K) A s.heap x.2.2 H locs ∧ lv_has ls 4 [(1, .int (nI x.2.1)), (0, .ref (g 0))]) ?_ (100, 0, st) _ _ _ ⟨rfl, rfl, hok, hI, lv_sub hl [0, 1] rfl⟩
  rintro ⟨f, n, u⟩ H locs ls ⟨hkn, he, hok, hI, hl⟩ ih
  dsimp only at hkn he hok hI hl ih
  cases f with
  | zero =>
    have he : u = x_moveL 100 0 st := he
    refine lv_iload_n hx hb dX1_moveCallsHome_2 rfl (lv_at hl 0 rfl) ?_
    refine lv_bipush (v := nI 100) hx hb dX1_moveCallsHome_3 (by decide) ?_
    refine lv_icmp_ge (tgt := 57) hx hb dX1_moveCallsHome_5 (by decide) (fun c5 => ?_) (fun c5 => absurd c5 ((fun q => q (nI_le (by omega) (by omega)))))
    rw [nI_leI (by omega) (by omega)] at c5
    exact kret_v F hI dX1_moveCallsHome_57 (⟨rfl, he⟩)
  | succ f =>
    rcases ho : u.2.1 0 n with _ | a
    · have hl := hl
      refine lv_iload_n hx hb dX1_moveCallsHome_2 rfl (lv_at hl 0 rfl) ?_
      refine lv_bipush (v := nI 100) hx hb dX1_moveCallsHome_3 (by decide) ?_
      refine lv_icmp_ge (tgt := 57) hx hb dX1_moveCallsHome_5 (by decide) (fun c5 => absurd c5 ((nI_ge (show n < 100 by omega) (by decide)))) (fun c5 => ?_)
      rw [nI_leI (by omega) (by omega)] at c5
      refine lv_aload_n hx hb dX1_moveCallsHome_8 rfl (lv_at hl 1 rfl) ?_
      refine x_get F hI 5 (by decide) rfl flX1_38 dX1_moveCallsHome_9 ?_
      refine lv_iload_n hx hb dX1_moveCallsHome_12 rfl (lv_at hl 0 rfl) ?_
      refine x_rld F hI 0 (show n < 100 by omega) rfl dX1_moveCallsHome_13 ?_
      refine kstk (b := .null :: _) (by rw [ho]; rfl) ?_
      refine lv_astore_nN (lv' := [(2, .null), (1, .int _), (0, .ref _)]) hx hb dX1_moveCallsHome_14 rfl hl (by decide) rfl (fun ls hl => ?_)
      refine lv_aload_nN hx hb dX1_moveCallsHome_15 rfl (lv_at hl 0 rfl) ?_
      refine lv_ifnonnullN hx hb dX1_moveCallsHome_16 ?_
      refine lv_goto (tgt := 51) hx hb dX1_moveCallsHome_19 (by decide) ?_
      refine lv_iinc (v := nI (n + 1)) (lv' := [(1, .int _), (2, .null), (0, .ref _)]) hx hb dX1_moveCallsHome_51 hl (k := 1) rfl (kinc _ 1) (by decide) rfl (fun ls hl => ?_)
      refine lv_goto (tgt := 2) hx hb dX1_moveCallsHome_54 (by decide) ?_
      exact ih (f, n + 1, u) _ _ _ (by show f < f + 1; omega) ⟨by show n + 1 + f = _; omega, by rw [← he]; simp [x_moveL, x_move1, ho], hok, hI, lv_sub hl [0, 2] rfl⟩
    · obtain ⟨ha, h0⟩ := hok n (by omega) a ho
      have hok2 := xwt_move1 n hok
      refine lv_iload_n hx hb dX1_moveCallsHome_2 rfl (lv_at hl 0 rfl) ?_
      refine lv_bipush (v := nI 100) hx hb dX1_moveCallsHome_3 (by decide) ?_
      refine lv_icmp_ge (tgt := 57) hx hb dX1_moveCallsHome_5 (by decide) (fun c5 => absurd c5 ((nI_ge (show n < 100 by omega) (by decide)))) (fun c5 => ?_)
      rw [nI_leI (by omega) (by omega)] at c5
      refine lv_aload_n hx hb dX1_moveCallsHome_8 rfl (lv_at hl 1 rfl) ?_
      refine x_get F hI 5 (by decide) rfl flX1_38 dX1_moveCallsHome_9 ?_
      refine lv_iload_n hx hb dX1_moveCallsHome_12 rfl (lv_at hl 0 rfl) ?_
      refine x_rld F hI 0 (show n < 100 by omega) rfl dX1_moveCallsHome_13 ?_
      refine kstk (b := .ref a :: _) (by rw [ho]; rfl) ?_
      refine lv_astore_n (lv' := [(2, .ref _), (1, .int _), (0, .ref _)]) hx hb dX1_moveCallsHome_14 rfl hl (by decide) rfl (fun ls hl => ?_)
      refine lv_aload_n hx hb dX1_moveCallsHome_15 rfl (lv_at hl 0 rfl) ?_
      refine lv_ifnonnull (tgt := 22) hx hb dX1_moveCallsHome_16 (by decide) ?_
      refine lv_aload_n hx hb dX1_moveCallsHome_22 rfl (lv_at hl 2 rfl) ?_
      refine lv_iload_n hx hb dX1_moveCallsHome_23 rfl (lv_at hl 1 rfl) ?_
      refine kcallV (rest := []) F hA hI (xc_homeOf l _ n (by omega)) kgX1_63 (x_rec F hI) hl.1 rfl rfl (Nat.le_of_ble_eq_true rfl) dX1_moveCallsHome_24 ⟨Nat.le_of_ble_eq_true rfl, Nat.le_of_ble_eq_true rfl⟩ ⟨Nat.le_of_ble_eq_true rfl, Nat.le_of_ble_eq_true rfl⟩ (fun vq uq H locs hp hI => ?_)
      obtain ⟨rfl, hu⟩ := hp
      rw [hu] at hI
      clear hu
      refine kstk (b := .int _ :: []) rfl ?_
      refine lv_istore_n (lv' := [(3, .int _), (2, .ref _), (1, .int _), (0, .ref _)]) hx hb dX1_moveCallsHome_27 rfl hl (by decide) rfl (fun ls hl => ?_)
      refine lv_iload_n hx hb dX1_moveCallsHome_28 rfl (lv_at hl 0 rfl) ?_
      refine lv_aload_n hx hb dX1_moveCallsHome_29 rfl (lv_at hl 1 rfl) ?_
      refine x_cget F hI ha 3 (by decide) rfl flX1_105 dX1_moveCallsHome_30 ?_
      refine lv_icmp_eq (tgt := 51) hx hb dX1_moveCallsHome_33 (by decide) (fun c33 => ?_) (fun c33 => ?_)
      ·
        refine lv_iinc (v := nI (n + 1)) (lv' := [(1, .int _), (3, .int _), (2, .ref _), (0, .ref _)]) hx hb dX1_moveCallsHome_51 hl (k := 2) rfl (kinc _ 1) (by decide) rfl (fun ls hl => ?_)
        refine lv_goto (tgt := 2) hx hb dX1_moveCallsHome_54 (by decide) ?_
        exact ih (f, n + 1, u) _ _ _ (by show f < f + 1; omega) ⟨by show n + 1 + f = _; omega, by rw [← he]; simp [x_moveL, x_move1, ho, c33], hok, hI, lv_sub hl [0, 3] rfl⟩
      ·
        refine lv_aload_n hx hb dX1_moveCallsHome_36 rfl (lv_at hl 1 rfl) ?_
        refine lv_iload_n hx hb dX1_moveCallsHome_37 rfl (lv_at hl 0 rfl) ?_
        refine x_cput (ty := .int) F hI ha 3 (by decide) rfl flX1_105 (by decide +kernel) rfl rfl rfl dX1_moveCallsHome_38 (fun H locs hI => ?_)
        have hI : kI D _ A s.heap (xc u a 3 (hm (x_up u) n)) H locs := hI
        generalize hS38 : xc u a 3 (hm (x_up u) n) = S38 at hI
        refine lv_aload_n hx hb dX1_moveCallsHome_41 rfl (lv_at hl 3 rfl) ?_
        refine x_get F hI 2 (by decide) rfl flX1_25 dX1_moveCallsHome_42 ?_
        refine lv_iconst (v := nI 4) hx hb dX1_moveCallsHome_45 (by decide) ?_
        refine lv_dup2_11 hx hb dX1_moveCallsHome_46 rfl rfl ?_
        refine x_ald F hI 2 (show 4 < 13 by omega) rfl dX1_moveCallsHome_47 ?_
        refine lv_iconst (v := nI 1) hx hb dX1_moveCallsHome_48 (by decide) ?_
        refine lv_iadd hx hb dX1_moveCallsHome_49 ?_
        refine x_ast F hI 2 (show 4 < 13 by omega) rfl dX1_moveCallsHome_50 (fun H locs hI => ?_)
        have hI : kI D _ A s.heap (xinc S38 2 4) H locs := hI
        generalize hS50 : xinc S38 2 4 = S50 at hI
        refine lv_iinc (v := nI (n + 1)) (lv' := [(1, .int _), (3, .int _), (2, .ref _), (0, .ref _)]) hx hb dX1_moveCallsHome_51 hl (k := 2) rfl (kinc _ 1) (by decide) rfl (fun ls hl => ?_)
        refine lv_goto (tgt := 2) hx hb dX1_moveCallsHome_54 (by decide) ?_
        exact ih (f, n + 1, S50) _ _ _ (by show f < f + 1; omega) ⟨by show n + 1 + f = _; omega, by rw [← he]; simp [x_moveL, x_move1, ho, c33, hS38, hS50], by rw [← hS50, ← hS38]; simpa [x_move1, ho, c33] using hok2, hI, lv_sub hl [0, 3] rfl⟩
theorem xc_keeper_bad (st : XS) (x : Int32) (up : Bool) (h : decide (¬ x < 0 ∧ ¬ nI 4 ≤ x) = false) : kM l yX1_keeper cX1_keeper 3 (some .int) 2 48 0 0 D (xty K) (xw g K) [.ref (g 0), .int x, .int (bI up)] st (fun v u => v = some (.int (-1)) ∧ u = st) := by
  refine kM_intro (by decide) (Nat.le_of_ble_eq_true rfl) ?_
  intro p e s m below meth c A ls F hA hI hl
  obtain ⟨hx, hb, hr, hml, hown, hts, hlk, hK, hnm⟩ := id F
  have hl : lv_has ls 3 [(0, .ref (g 0)), (1, .int x), (2, .int (bI up))] := hl
  refine lv_iload_n hx hb dX1_keeper_0 rfl (lv_at hl 1 rfl) ?_
  refine lv_iconst (v := nI 4) hx hb dX1_keeper_1 (by decide) ?_
  refine kcallS (rest := []) F hA hI (xc_isBelow l _ _ _) kgX1_52 hl.1 rfl rfl (Nat.le_of_ble_eq_true rfl) dX1_keeper_2 ⟨Nat.le_of_ble_eq_true rfl, Nat.le_of_ble_eq_true rfl⟩ ⟨Nat.le_of_ble_eq_true rfl, Nat.le_of_ble_eq_true rfl⟩ (fun vq uq H locs hp hI => ?_)
  obtain ⟨rfl, hu⟩ := hp
  rw [hu] at hI
  clear hu
  refine kstk (b := .int _ :: []) rfl ?_
  refine lv_if_ne (tgt := 10) hx hb dX1_keeper_5 (by decide) (fun c5 => absurd c5 ((fun q => q (bI_z.mpr h)))) (fun c5 => ?_)
  refine lv_iconst (v := -1) hx hb dX1_keeper_8 (by decide) ?_
  exact kret_i F hI dX1_keeper_9 (⟨rfl, rfl⟩)
theorem xc_keeper (st : XS) (k : Nat) (up : Bool) (hk : k < 4) (hok : xwt st) : kM l yX1_keeper cX1_keeper 3 (some .int) 2 48 0 0 D (xty K) (xw g K) [.ref (g 0), .int (nI k), .int (bI up)] st (fun v u => v = some (.int (x_keeper st k up).1) ∧ u = (x_keeper st k up).2) := by
  have h : decide (¬ nI k < 0 ∧ ¬ nI 4 ≤ nI k) = true := isB_t (by omega) (by decide)
  refine kM_intro (by decide) (Nat.le_of_ble_eq_true rfl) ?_
  intro p e s m below meth c A ls F hA hI hl
  obtain ⟨hx, hb, hr, hml, hown, hts, hlk, hK, hnm⟩ := id F
  have hl : lv_has ls 3 [(0, .ref (g 0)), (1, .int (nI k)), (2, .int (bI up))] := hl
  have h57 : ∀ (u : XS) (H : Heap) (locs : List Loc) (ls : Array Slot), kI D (xw g K) A s.heap u H locs → ¬ st.1 0 k = bI up → xwt u → (u = if up = true then x_kset st k up else x_loseL k 100 0 (x_kset st k up)) → lv_has ls 3 [(0, .ref (g 0)), (1, .int (nI k)), (2, .int (bI up))] → W p l e { frames := 2, cells := 0, slots := 0, locals := 48 } s m #[.ref (g 0), .int (nI k), .int (bI up)] below meth c H locs 0 0 (MQ below (kQ D (xty K) (xw g K) (fun v u => v = some (.int (x_keeper st k up).1) ∧ u = (x_keeper st k up).2) A) #[.ref (g 0), .int (nI k), .int (bI up)] s 0 0 A) (F0 m 57 ls []) := by
    intro u H locs ls hI hd hok hu hl
    refine lv_aload_n hx hb dX1_keeper_57 rfl (lv_at hl 0 rfl) ?_
    refine kcallV (rest := []) F hA hI (xc_move l _ hok) kgX1_60 (x_rec F hI) hl.1 rfl rfl (Nat.le_of_ble_eq_true rfl) dX1_keeper_58 ⟨Nat.le_of_ble_eq_true rfl, Nat.le_of_ble_eq_true rfl⟩ ⟨Nat.le_of_ble_eq_true rfl, Nat.le_of_ble_eq_true rfl⟩ (fun vq uq H locs hp hI => ?_)
    obtain ⟨rfl, hu⟩ := hp
    rw [hu] at hI
    clear hu
    refine kstk (b := []) rfl ?_
    refine lv_iconst (v := nI 1) hx hb dX1_keeper_61 (by decide) ?_
    exact kret_i F hI dX1_keeper_62 (⟨by simp [x_keeper, hd], by simp only [x_keeper, hd, if_false]; rw [← hu]⟩)
  cases up
  · have hl := hl
    refine lv_iload_n hx hb dX1_keeper_0 rfl (lv_at hl 1 rfl) ?_
    refine lv_iconst (v := nI 4) hx hb dX1_keeper_1 (by decide) ?_
    refine kcallS (rest := []) F hA hI (xc_isBelow l _ _ _) kgX1_52 hl.1 rfl rfl (Nat.le_of_ble_eq_true rfl) dX1_keeper_2 ⟨Nat.le_of_ble_eq_true rfl, Nat.le_of_ble_eq_true rfl⟩ ⟨Nat.le_of_ble_eq_true rfl, Nat.le_of_ble_eq_true rfl⟩ (fun vq uq H locs hp hI => ?_)
    obtain ⟨rfl, hu⟩ := hp
    rw [hu] at hI
    clear hu
    refine kstk (b := .int _ :: []) rfl ?_
    refine lv_if_ne (tgt := 10) hx hb dX1_keeper_5 (by decide) (fun c5 => ?_) (fun c5 => absurd c5 ((fun q => by rw [bI_z, h] at q; cases q)))
    refine lv_aload_n hx hb dX1_keeper_10 rfl (lv_at hl 0 rfl) ?_
    refine x_get F hI 0 (by decide) rfl flX1_9 dX1_keeper_11 ?_
    refine lv_iload_n hx hb dX1_keeper_14 rfl (lv_at hl 1 rfl) ?_
    refine x_zald F hI 0 (show k < 4 by omega) rfl dX1_keeper_15 ?_
    refine lv_iload_n hx hb dX1_keeper_16 rfl (lv_at hl 2 rfl) ?_
    refine lv_icmp_ne (tgt := 22) hx hb dX1_keeper_17 (by decide) (fun c17 => ?_) (fun c17 => ?_)
    ·
      refine lv_aload_n hx hb dX1_keeper_22 rfl (lv_at hl 0 rfl) ?_
      refine x_get F hI 0 (by decide) rfl flX1_9 dX1_keeper_23 ?_
      refine lv_iload_n hx hb dX1_keeper_26 rfl (lv_at hl 1 rfl) ?_
      refine lv_iload_n hx hb dX1_keeper_27 rfl (lv_at hl 2 rfl) ?_
      refine x_zast F hI 0 (show k < 4 by omega) rfl (bI_narz false) dX1_keeper_28 (fun H locs hI => ?_)
      refine lv_aload_n hx hb dX1_keeper_29 rfl (lv_at hl 0 rfl) ?_
      refine x_get F hI 2 (by decide) rfl flX1_25 dX1_keeper_30 ?_
      refine lv_bipush (v := nI 12) hx hb dX1_keeper_33 (by decide) ?_
      refine lv_dup2_11 hx hb dX1_keeper_35 rfl rfl ?_
      refine x_ald F hI 2 (show 12 < 13 by omega) rfl dX1_keeper_36 ?_
      refine lv_iload_n hx hb dX1_keeper_37 rfl (lv_at hl 2 rfl) ?_
      refine lv_if_eq (tgt := 45) hx hb dX1_keeper_38 (by decide) (fun c38 => ?_) (fun c38 => absurd c38 ((fun q => q rfl)))
      refine lv_iconst (v := -1) hx hb dX1_keeper_45 (by decide) ?_
      refine lv_iadd hx hb dX1_keeper_46 ?_
      refine x_ast F hI 2 (show 12 < 13 by omega) rfl dX1_keeper_47 (fun H locs hI => ?_)
      have hI : kI D _ A s.heap (x_kset st k false) H locs := hI
      generalize hS47 : x_kset st k false = S47 at hI
      refine lv_iload_n hx hb dX1_keeper_48 rfl (lv_at hl 2 rfl) ?_
      refine lv_if_ne (tgt := 57) hx hb dX1_keeper_49 (by decide) (fun c49 => absurd c49 ((fun q => q rfl))) (fun c49 => ?_)
      refine lv_aload_n hx hb dX1_keeper_52 rfl (lv_at hl 0 rfl) ?_
      refine lv_iload_n hx hb dX1_keeper_53 rfl (lv_at hl 1 rfl) ?_
      have hok7 : xwt S47 := by rw [← hS47]; exact hok
      refine kcallV (rest := []) F hA hI (xc_lose l _ k hk hok7) kgX1_56 (x_rec F hI) hl.1 rfl rfl (Nat.le_of_ble_eq_true rfl) dX1_keeper_54 ⟨Nat.le_of_ble_eq_true rfl, Nat.le_of_ble_eq_true rfl⟩ ⟨Nat.le_of_ble_eq_true rfl, Nat.le_of_ble_eq_true rfl⟩ (fun vq uq H locs hp hI => ?_)
      obtain ⟨rfl, hu⟩ := hp
      rw [hu] at hI
      clear hu
      refine kstk (b := []) rfl ?_
      exact h57 _ _ _ _ hI c17 (xwt_loseL k 100 0 _ hok7) (by rw [if_neg (by decide), hS47]) hl
    ·
      refine lv_iconst (v := nI 0) hx hb dX1_keeper_20 (by decide) ?_
      exact kret_i F hI dX1_keeper_21 (⟨by simp [x_keeper, c17], by simp [x_keeper, c17]⟩)
  · have hl := hl
    refine lv_iload_n hx hb dX1_keeper_0 rfl (lv_at hl 1 rfl) ?_
    refine lv_iconst (v := nI 4) hx hb dX1_keeper_1 (by decide) ?_
    refine kcallS (rest := []) F hA hI (xc_isBelow l _ _ _) kgX1_52 hl.1 rfl rfl (Nat.le_of_ble_eq_true rfl) dX1_keeper_2 ⟨Nat.le_of_ble_eq_true rfl, Nat.le_of_ble_eq_true rfl⟩ ⟨Nat.le_of_ble_eq_true rfl, Nat.le_of_ble_eq_true rfl⟩ (fun vq uq H locs hp hI => ?_)
    obtain ⟨rfl, hu⟩ := hp
    rw [hu] at hI
    clear hu
    refine kstk (b := .int _ :: []) rfl ?_
    refine lv_if_ne (tgt := 10) hx hb dX1_keeper_5 (by decide) (fun c5 => ?_) (fun c5 => absurd c5 ((fun q => by rw [bI_z, h] at q; cases q)))
    refine lv_aload_n hx hb dX1_keeper_10 rfl (lv_at hl 0 rfl) ?_
    refine x_get F hI 0 (by decide) rfl flX1_9 dX1_keeper_11 ?_
    refine lv_iload_n hx hb dX1_keeper_14 rfl (lv_at hl 1 rfl) ?_
    refine x_zald F hI 0 (show k < 4 by omega) rfl dX1_keeper_15 ?_
    refine lv_iload_n hx hb dX1_keeper_16 rfl (lv_at hl 2 rfl) ?_
    refine lv_icmp_ne (tgt := 22) hx hb dX1_keeper_17 (by decide) (fun c17 => ?_) (fun c17 => ?_)
    ·
      refine lv_aload_n hx hb dX1_keeper_22 rfl (lv_at hl 0 rfl) ?_
      refine x_get F hI 0 (by decide) rfl flX1_9 dX1_keeper_23 ?_
      refine lv_iload_n hx hb dX1_keeper_26 rfl (lv_at hl 1 rfl) ?_
      refine lv_iload_n hx hb dX1_keeper_27 rfl (lv_at hl 2 rfl) ?_
      refine x_zast F hI 0 (show k < 4 by omega) rfl (bI_narz true) dX1_keeper_28 (fun H locs hI => ?_)
      refine lv_aload_n hx hb dX1_keeper_29 rfl (lv_at hl 0 rfl) ?_
      refine x_get F hI 2 (by decide) rfl flX1_25 dX1_keeper_30 ?_
      refine lv_bipush (v := nI 12) hx hb dX1_keeper_33 (by decide) ?_
      refine lv_dup2_11 hx hb dX1_keeper_35 rfl rfl ?_
      refine x_ald F hI 2 (show 12 < 13 by omega) rfl dX1_keeper_36 ?_
      refine lv_iload_n hx hb dX1_keeper_37 rfl (lv_at hl 2 rfl) ?_
      refine lv_if_eq (tgt := 45) hx hb dX1_keeper_38 (by decide) (fun c38 => absurd c38 ((by decide))) (fun c38 => ?_)
      refine lv_iconst (v := nI 1) hx hb dX1_keeper_41 (by decide) ?_
      refine lv_goto (tgt := 46) hx hb dX1_keeper_42 (by decide) ?_
      refine lv_iadd hx hb dX1_keeper_46 ?_
      refine x_ast F hI 2 (show 12 < 13 by omega) rfl dX1_keeper_47 (fun H locs hI => ?_)
      have hI : kI D _ A s.heap (x_kset st k true) H locs := hI
      generalize hS47 : x_kset st k true = S47 at hI
      refine lv_iload_n hx hb dX1_keeper_48 rfl (lv_at hl 2 rfl) ?_
      refine lv_if_ne (tgt := 57) hx hb dX1_keeper_49 (by decide) (fun c49 => ?_) (fun c49 => absurd c49 ((by decide)))
      exact h57 _ _ _ _ hI c17 (by rw [← hS47]; exact hok) (by rw [← hS47]; rfl) hl
    ·
      refine lv_iconst (v := nI 0) hx hb dX1_keeper_20 (by decide) ?_
      exact kret_i F hI dX1_keeper_21 (⟨by simp [x_keeper, c17], by simp [x_keeper, c17]⟩)
theorem xc_home_bad (st : XS) (x : Int32) (h : decide (¬ x < 0 ∧ ¬ nI 100 ≤ x) = false) : kM l yX1_home cX1_home 2 (some .int) 1 25 0 0 D (xty K) (xw g K) [.ref (g 0), .int x] st (fun v u => v = some (.int (-1)) ∧ u = st) := by
  refine kM_intro (by decide) (Nat.le_of_ble_eq_true rfl) ?_
  intro p e s m below meth c A ls F hA hI hl
  obtain ⟨hx, hb, hr, hml, hown, hts, hlk, hK, hnm⟩ := id F
  have hl : lv_has ls 2 [(0, .ref (g 0)), (1, .int x)] := hl
  refine lv_iload_n hx hb dX1_home_0 rfl (lv_at hl 1 rfl) ?_
  refine lv_bipush (v := nI 100) hx hb dX1_home_1 (by decide) ?_
  refine kcallS (rest := []) F hA hI (xc_isBelow l _ _ _) kgX1_52 hl.1 rfl rfl (Nat.le_of_ble_eq_true rfl) dX1_home_3 ⟨Nat.le_of_ble_eq_true rfl, Nat.le_of_ble_eq_true rfl⟩ ⟨Nat.le_of_ble_eq_true rfl, Nat.le_of_ble_eq_true rfl⟩ (fun vq uq H locs hp hI => ?_)
  obtain ⟨rfl, hu⟩ := hp
  rw [hu] at hI
  clear hu
  refine kstk (b := .int _ :: []) rfl ?_
  refine lv_if_eq (tgt := 17) hx hb dX1_home_6 (by decide) (fun c6 => ?_) (fun c6 => absurd c6 ((fun q => q (bI_z.mpr h))))
  refine lv_iconst (v := -1) hx hb dX1_home_17 (by decide) ?_
  exact kret_i F hI dX1_home_18 (⟨rfl, rfl⟩)
theorem xc_home (st : XS) (n : Nat) (hn : n < 100) : kM l yX1_home cX1_home 2 (some .int) 1 25 0 0 D (xty K) (xw g K) [.ref (g 0), .int (nI n)] st (fun v u => v = some (.int (hm (x_up st) n)) ∧ u = st) := by
  have h := isB_t (show n < 100 by omega) (by decide)
  refine kM_intro (by decide) (Nat.le_of_ble_eq_true rfl) ?_
  intro p e s m below meth c A ls F hA hI hl
  obtain ⟨hx, hb, hr, hml, hown, hts, hlk, hK, hnm⟩ := id F
  have hl : lv_has ls 2 [(0, .ref (g 0)), (1, .int (nI n))] := hl
  refine lv_iload_n hx hb dX1_home_0 rfl (lv_at hl 1 rfl) ?_
  refine lv_bipush (v := nI 100) hx hb dX1_home_1 (by decide) ?_
  refine kcallS (rest := []) F hA hI (xc_isBelow l _ _ _) kgX1_52 hl.1 rfl rfl (Nat.le_of_ble_eq_true rfl) dX1_home_3 ⟨Nat.le_of_ble_eq_true rfl, Nat.le_of_ble_eq_true rfl⟩ ⟨Nat.le_of_ble_eq_true rfl, Nat.le_of_ble_eq_true rfl⟩ (fun vq uq H locs hp hI => ?_)
  obtain ⟨rfl, hu⟩ := hp
  rw [hu] at hI
  clear hu
  refine kstk (b := .int _ :: []) rfl ?_
  refine lv_if_eq (tgt := 17) hx hb dX1_home_6 (by decide) (fun c6 => absurd c6 ((fun q => by rw [bI_z, h] at q; cases q))) (fun c6 => ?_)
  refine lv_aload_n hx hb dX1_home_9 rfl (lv_at hl 0 rfl) ?_
  refine lv_iload_n hx hb dX1_home_10 rfl (lv_at hl 1 rfl) ?_
  refine kcallV (rest := []) F hA hI (xc_homeOf l _ n hn) kgX1_63 (x_rec F hI) hl.1 rfl rfl (Nat.le_of_ble_eq_true rfl) dX1_home_11 ⟨Nat.le_of_ble_eq_true rfl, Nat.le_of_ble_eq_true rfl⟩ ⟨Nat.le_of_ble_eq_true rfl, Nat.le_of_ble_eq_true rfl⟩ (fun vq uq H locs hp hI => ?_)
  obtain ⟨rfl, hu⟩ := hp
  rw [hu] at hI
  clear hu
  refine kstk (b := .int _ :: []) rfl ?_
  refine lv_goto (tgt := 18) hx hb dX1_home_14 (by decide) ?_
  exact kret_i F hI dX1_home_18 (⟨rfl, rfl⟩)
theorem xc_tick1 (st : XS) (hok : xokT st) : kM l yX1_passOneTick cX1_passOneTick 3 none 5 107 0 0 D (xty K) (xw g K) [.ref (g 0)] st (fun v u => v = none ∧ u = x_tk1 st) := by
  refine kM_intro (by decide) (Nat.le_of_ble_eq_true rfl) ?_
  intro p e s m below meth c A ls F hA hI hl
  obtain ⟨hx, hb, hr, hml, hown, hts, hlk, hK, hnm⟩ := id F
  have hl : lv_has ls 3 [(0, .ref (g 0))] := hl
  refine lv_aload_n hx hb dX1_passOneTick_0 rfl (lv_at hl 0 rfl) ?_
  refine x_get F hI 2 (by decide) rfl flX1_25 dX1_passOneTick_1 ?_
  refine lv_iconst (v := nI 0) hx hb dX1_passOneTick_4 (by decide) ?_
  refine lv_dup2_11 hx hb dX1_passOneTick_5 rfl rfl ?_
  refine x_ald F hI 2 (show 0 < 13 by omega) rfl dX1_passOneTick_6 ?_
  refine lv_iconst (v := nI 1) hx hb dX1_passOneTick_7 (by decide) ?_
  refine lv_iadd hx hb dX1_passOneTick_8 ?_
  refine x_ast F hI 2 (show 0 < 13 by omega) rfl dX1_passOneTick_9 (fun H locs hI => ?_)
  refine lv_iconst (v := nI 0) hx hb dX1_passOneTick_10 (by decide) ?_
  refine lv_istore_n (lv' := [(1, .int _), (0, .ref _)]) hx hb dX1_passOneTick_11 rfl hl (by decide) rfl (fun ls hl => ?_)
  refine wloop (σ := Nat × Nat × XS) (fun x => x.1) (fun x H locs ls => x.2.1 + x.1 = 100 ∧ x_tkN x.1 x.2.1 x.2.2 = x_tk1 st ∧ xokT x.2.2 ∧ kI D (xw g K) A s.heap x.2.2 H locs ∧ lv_has ls 3 [(1, .int (nI x.2.1)), (0, .ref (g 0))]) ?_ (100, 0, xinc st 2 0) _ _ _ ⟨rfl, rfl, xokT_now hok, hI, lv_sub hl [0, 1] rfl⟩
  rintro ⟨f, n, u⟩ H locs ls ⟨hkn, he, hok, hI, hl⟩ ih
  dsimp only at hkn he hok hI hl ih
  cases f with
  | zero =>
    have he : u = x_tk1 st := he
    refine lv_iload_n hx hb dX1_passOneTick_12 rfl (lv_at hl 0 rfl) ?_
    refine lv_bipush (v := nI 100) hx hb dX1_passOneTick_13 (by decide) ?_
    refine lv_icmp_ge (tgt := 61) hx hb dX1_passOneTick_15 (by decide) (fun c15 => ?_) (fun c15 => absurd c15 ((fun q => q (nI_le (by omega) (by omega)))))
    rw [nI_leI (by omega) (by omega)] at c15
    exact kret_v F hI dX1_passOneTick_61 (⟨rfl, he⟩)
  | succ f =>
    rcases ho : u.2.1 0 n with _ | a
    · have hl := hl
      refine lv_iload_n hx hb dX1_passOneTick_12 rfl (lv_at hl 0 rfl) ?_
      refine lv_bipush (v := nI 100) hx hb dX1_passOneTick_13 (by decide) ?_
      refine lv_icmp_ge (tgt := 61) hx hb dX1_passOneTick_15 (by decide) (fun c15 => absurd c15 ((nI_ge (show n < 100 by omega) (by decide)))) (fun c15 => ?_)
      rw [nI_leI (by omega) (by omega)] at c15
      refine lv_aload_n hx hb dX1_passOneTick_18 rfl (lv_at hl 1 rfl) ?_
      refine x_get F hI 5 (by decide) rfl flX1_38 dX1_passOneTick_19 ?_
      refine lv_iload_n hx hb dX1_passOneTick_22 rfl (lv_at hl 0 rfl) ?_
      refine x_rld F hI 0 (show n < 100 by omega) rfl dX1_passOneTick_23 ?_
      refine kstk (b := .null :: _) (by rw [ho]; rfl) ?_
      refine lv_astore_nN (lv' := [(2, .null), (1, .int _), (0, .ref _)]) hx hb dX1_passOneTick_24 rfl hl (by decide) rfl (fun ls hl => ?_)
      refine lv_aload_nN hx hb dX1_passOneTick_25 rfl (lv_at hl 0 rfl) ?_
      refine lv_ifnullN (tgt := 55) hx hb dX1_passOneTick_26 (by decide) ?_
      refine lv_iinc (v := nI (n + 1)) (lv' := [(1, .int _), (2, .null), (0, .ref _)]) hx hb dX1_passOneTick_55 hl (k := 1) rfl (kinc _ 1) (by decide) rfl (fun ls hl => ?_)
      refine lv_goto (tgt := 12) hx hb dX1_passOneTick_58 (by decide) ?_
      exact ih (f, n + 1, u) _ _ _ (by show f < f + 1; omega) ⟨by show n + 1 + f = _; omega, by rw [← he]; simp [x_tkN, x_tkK, ho], hok, hI, lv_sub hl [0, 2] rfl⟩
    · obtain ⟨ha, h0, sh, z, hs, hz, h1, h5⟩ := hok.1 n (by omega) a ho
      obtain ⟨e', he', h2⟩ := hok.2
      have hd : x_dec u a true = x_decS u a n sh z true e' := by rw [x_dec, h0, h1, h5, h2, nI_clamp (by omega), nI_clamp (by omega), nI_clamp (by omega), nI_clamp (by omega)]
      have hok2 := xokT_dec true (show n < 100 by omega) ho hok
      refine lv_iload_n hx hb dX1_passOneTick_12 rfl (lv_at hl 0 rfl) ?_
      refine lv_bipush (v := nI 100) hx hb dX1_passOneTick_13 (by decide) ?_
      refine lv_icmp_ge (tgt := 61) hx hb dX1_passOneTick_15 (by decide) (fun c15 => absurd c15 ((nI_ge (show n < 100 by omega) (by decide)))) (fun c15 => ?_)
      rw [nI_leI (by omega) (by omega)] at c15
      refine lv_aload_n hx hb dX1_passOneTick_18 rfl (lv_at hl 1 rfl) ?_
      refine x_get F hI 5 (by decide) rfl flX1_38 dX1_passOneTick_19 ?_
      refine lv_iload_n hx hb dX1_passOneTick_22 rfl (lv_at hl 0 rfl) ?_
      refine x_rld F hI 0 (show n < 100 by omega) rfl dX1_passOneTick_23 ?_
      refine kstk (b := .ref a :: _) (by rw [ho]; rfl) ?_
      refine lv_astore_n (lv' := [(2, .ref _), (1, .int _), (0, .ref _)]) hx hb dX1_passOneTick_24 rfl hl (by decide) rfl (fun ls hl => ?_)
      refine lv_aload_n hx hb dX1_passOneTick_25 rfl (lv_at hl 0 rfl) ?_
      refine lv_ifnull hx hb dX1_passOneTick_26 ?_
      refine lv_aload_n hx hb dX1_passOneTick_29 rfl (lv_at hl 2 rfl) ?_
      refine x_get F hI 2 (by decide) rfl flX1_25 dX1_passOneTick_30 ?_
      refine lv_iconst (v := nI 0) hx hb dX1_passOneTick_33 (by decide) ?_
      refine x_ald F hI 2 (show 0 < 13 by omega) rfl dX1_passOneTick_34 ?_
      refine lv_aload_n hx hb dX1_passOneTick_35 rfl (lv_at hl 0 rfl) ?_
      refine x_cget F hI ha 2 (by decide) rfl flX1_121 dX1_passOneTick_36 ?_
      refine lv_isub hx hb dX1_passOneTick_39 ?_
      refine lv_aload_n hx hb dX1_passOneTick_40 rfl (lv_at hl 2 rfl) ?_
      refine x_get F hI 1 (by decide) rfl flX1_22 dX1_passOneTick_41 ?_
      refine lv_iconst (v := nI 4) hx hb dX1_passOneTick_44 (by decide) ?_
      refine x_ald F hI 1 (show 4 < 6 by omega) rfl dX1_passOneTick_45 ?_
      refine lv_icmp_lt (tgt := 55) hx hb dX1_passOneTick_46 (by decide) (fun c46 => ?_) (fun c46 => ?_)
      ·
        refine lv_iinc (v := nI (n + 1)) (lv' := [(1, .int _), (2, .ref _), (0, .ref _)]) hx hb dX1_passOneTick_55 hl (k := 1) rfl (kinc _ 1) (by decide) rfl (fun ls hl => ?_)
        refine lv_goto (tgt := 12) hx hb dX1_passOneTick_58 (by decide) ?_
        exact ih (f, n + 1, u) _ _ _ (by show f < f + 1; omega) ⟨by show n + 1 + f = _; omega, by rw [← he]; simp [x_tkN, x_tkK, ho, c46], hok, hI, lv_sub hl [0, 2] rfl⟩
      ·
        refine lv_aload_n hx hb dX1_passOneTick_49 rfl (lv_at hl 2 rfl) ?_
        refine lv_aload_n hx hb dX1_passOneTick_50 rfl (lv_at hl 0 rfl) ?_
        refine lv_iconst (v := nI 1) hx hb dX1_passOneTick_51 (by decide) ?_
        refine kcallV (rest := []) F hA hI (xc_decide l _ a n sh z e' true ha (by omega) hs hz he' h0 h1 h5 h2) kgX1_172 (x_rec F hI) hl.1 rfl rfl (Nat.le_of_ble_eq_true rfl) dX1_passOneTick_52 ⟨Nat.le_of_ble_eq_true rfl, Nat.le_of_ble_eq_true rfl⟩ ⟨Nat.le_of_ble_eq_true rfl, Nat.le_of_ble_eq_true rfl⟩ (fun vq uq H locs hp hI => ?_)
        obtain ⟨rfl, hu⟩ := hp
        rw [hu] at hI
        clear hu
        refine kstk (b := []) rfl ?_
        refine lv_iinc (v := nI (n + 1)) (lv' := [(1, .int _), (2, .ref _), (0, .ref _)]) hx hb dX1_passOneTick_55 hl (k := 1) rfl (kinc _ 1) (by decide) rfl (fun ls hl => ?_)
        refine lv_goto (tgt := 12) hx hb dX1_passOneTick_58 (by decide) ?_
        exact ih (f, n + 1, x_dec u a true) _ _ _ (by show f < f + 1; omega) ⟨by show n + 1 + f = _; omega, by rw [← he]; simp [x_tkN, x_tkK, ho, c46], hok2, by rw [hd]; exact hI, lv_sub hl [0, 2] rfl⟩
theorem xc_tick (st : XS) (nt : Nat) (h1 : 1 ≤ nt) (h60 : nt ≤ 60) (hok : xokT st) : kM l yX1_tick cX1_tick 4 (some .int) 6 129 0 0 D (xty K) (xw g K) [.ref (g 0), .int (nI nt)] st (fun v u => v = some (.int ((x_tkL nt st).1 2 10 - st.1 2 10)) ∧ u = x_tkL nt st) := by
  refine kM_intro (by decide) (Nat.le_of_ble_eq_true rfl) ?_
  intro p e s m below meth c A ls F hA hI hl
  obtain ⟨hx, hb, hr, hml, hown, hts, hlk, hK, hnm⟩ := id F
  have hl : lv_has ls 4 [(0, .ref (g 0)), (1, .int (nI nt))] := hl
  have g1 : inR (nI nt) (nI 1) (nI 60) = true := inR_in (by decide) (by omega) (by omega)
  refine lv_iload_n hx hb dX1_tick_0 rfl (lv_at hl 1 rfl) ?_
  refine lv_iconst (v := nI 1) hx hb dX1_tick_1 (by decide) ?_
  refine lv_bipush (v := nI 60) hx hb dX1_tick_2 (by decide) ?_
  refine kcallS (rest := []) F hA hI (xc_isWithin l _ _ _ _) kgX1_73 hl.1 rfl rfl (Nat.le_of_ble_eq_true rfl) dX1_tick_4 ⟨Nat.le_of_ble_eq_true rfl, Nat.le_of_ble_eq_true rfl⟩ ⟨Nat.le_of_ble_eq_true rfl, Nat.le_of_ble_eq_true rfl⟩ (fun vq uq H locs hp hI => ?_)
  obtain ⟨rfl, hu⟩ := hp
  rw [hu] at hI
  clear hu
  refine kstk (b := .int _ :: []) rfl ?_
  refine lv_if_ne (tgt := 12) hx hb dX1_tick_7 (by decide) (fun c7 => ?_) (fun c7 => absurd c7 ((fun q => by rw [bI_z, g1] at q; cases q)))
  refine lv_aload_n hx hb dX1_tick_12 rfl (lv_at hl 0 rfl) ?_
  refine x_get F hI 2 (by decide) rfl flX1_25 dX1_tick_13 ?_
  refine lv_bipush (v := nI 10) hx hb dX1_tick_16 (by decide) ?_
  refine x_ald F hI 2 (show 10 < 13 by omega) rfl dX1_tick_18 ?_
  refine lv_istore_n (lv' := [(2, .int _), (0, .ref _), (1, .int _)]) hx hb dX1_tick_19 rfl hl (by decide) rfl (fun ls hl => ?_)
  refine lv_iconst (v := nI 0) hx hb dX1_tick_20 (by decide) ?_
  refine lv_istore_n (lv' := [(3, .int _), (2, .int _), (0, .ref _), (1, .int _)]) hx hb dX1_tick_21 rfl hl (by decide) rfl (fun ls hl => ?_)
  refine wloop (σ := Nat × Nat × XS) (fun x => x.1) (fun x H locs ls => x.2.1 + x.1 = nt ∧ x_tkL x.1 x.2.2 = x_tkL nt st ∧ xokT x.2.2 ∧ kI D (xw g K) A s.heap x.2.2 H locs ∧ lv_has ls 4 [(3, .int (nI x.2.1)), (2, .int (st.1 2 10)), (0, .ref (g 0)), (1, .int (nI nt))]) ?_ (nt, 0, st) _ _ _ ⟨Nat.zero_add _, rfl, hok, hI, lv_sub hl [0, 1, 2, 3] rfl⟩
  rintro ⟨f, t, u⟩ H locs ls ⟨hk, he, hok, hI, hl⟩ ih
  dsimp only at hk he hok hI hl ih
  refine lv_iload_n hx hb dX1_tick_22 rfl (lv_at hl 0 rfl) ?_
  refine lv_iload_n hx hb dX1_tick_23 rfl (lv_at hl 3 rfl) ?_
  refine lv_icmp_ge (tgt := 37) hx hb dX1_tick_24 (by decide) (fun c24 => ?_) (fun c24 => ?_)
  ·
    rw [nI_leI (by omega) (by omega)] at c24
    obtain rfl : f = 0 := by omega
    have he : u = x_tkL nt st := he
    refine lv_aload_n hx hb dX1_tick_37 rfl (lv_at hl 2 rfl) ?_
    refine x_get F hI 2 (by decide) rfl flX1_25 dX1_tick_38 ?_
    refine lv_bipush (v := nI 10) hx hb dX1_tick_41 (by decide) ?_
    refine x_ald F hI 2 (show 10 < 13 by omega) rfl dX1_tick_43 ?_
    refine lv_iload_n hx hb dX1_tick_44 rfl (lv_at hl 1 rfl) ?_
    refine lv_isub hx hb dX1_tick_45 ?_
    exact kret_i F hI dX1_tick_46 (⟨by rw [he], he⟩)
  ·
    rw [nI_leI (by omega) (by omega)] at c24
    obtain ⟨f, rfl⟩ : ∃ f', f = f' + 1 := ⟨f - 1, by omega⟩
    refine lv_aload_n hx hb dX1_tick_27 rfl (lv_at hl 2 rfl) ?_
    refine kcallV (rest := []) F hA hI (xc_tick1 l _ hok) kgX1_102 (x_rec F hI) hl.1 rfl rfl (Nat.le_of_ble_eq_true rfl) dX1_tick_28 ⟨Nat.le_of_ble_eq_true rfl, Nat.le_of_ble_eq_true rfl⟩ ⟨Nat.le_of_ble_eq_true rfl, Nat.le_of_ble_eq_true rfl⟩ (fun vq uq H locs hp hI => ?_)
    obtain ⟨rfl, hu⟩ := hp
    rw [hu] at hI
    clear hu
    refine kstk (b := []) rfl ?_
    have hI : kI D _ A s.heap (x_tk1 u) H locs := hI
    generalize hS28 : x_tk1 u = S28 at hI
    have hok28 : xokT S28 := by rw [← hS28]; exact xokT_tk1 hok
    refine lv_iinc (v := nI (t + 1)) (lv' := [(3, .int _), (2, .int _), (0, .ref _), (1, .int _)]) hx hb dX1_tick_31 hl (k := 0) rfl (kinc _ 1) (by decide) rfl (fun ls hl => ?_)
    refine lv_goto (tgt := 22) hx hb dX1_tick_34 (by decide) ?_
    exact ih (f, t + 1, S28) _ _ _ (by show f < f + 1; omega) ⟨by show t + 1 + f = _; omega, by show x_tkL f S28 = _; rw [← he, x_tkL_s, hS28], hok28, hI, lv_sub hl [0, 1, 2, 3] rfl⟩
theorem xc_tick_bad (st : XS) (x : Int32) (h : inR x (nI 1) (nI 60) = false) : kM l yX1_tick cX1_tick 4 (some .int) 6 129 0 0 D (xty K) (xw g K) [.ref (g 0), .int x] st (fun v u => v = some (.int (-1)) ∧ u = st) := by
  refine kM_intro (by decide) (Nat.le_of_ble_eq_true rfl) ?_
  intro p e s m below meth c A ls F hA hI hl
  obtain ⟨hx, hb, hr, hml, hown, hts, hlk, hK, hnm⟩ := id F
  have hl : lv_has ls 4 [(0, .ref (g 0)), (1, .int x)] := hl
  refine lv_iload_n hx hb dX1_tick_0 rfl (lv_at hl 1 rfl) ?_
  refine lv_iconst (v := nI 1) hx hb dX1_tick_1 (by decide) ?_
  refine lv_bipush (v := nI 60) hx hb dX1_tick_2 (by decide) ?_
  refine kcallS (rest := []) F hA hI (xc_isWithin l _ _ _ _) kgX1_73 hl.1 rfl rfl (Nat.le_of_ble_eq_true rfl) dX1_tick_4 ⟨Nat.le_of_ble_eq_true rfl, Nat.le_of_ble_eq_true rfl⟩ ⟨Nat.le_of_ble_eq_true rfl, Nat.le_of_ble_eq_true rfl⟩ (fun vq uq H locs hp hI => ?_)
  obtain ⟨rfl, hu⟩ := hp
  rw [hu] at hI
  clear hu
  refine kstk (b := .int _ :: []) rfl ?_
  refine lv_if_ne (tgt := 12) hx hb dX1_tick_7 (by decide) (fun c7 => absurd c7 ((fun q => q (bI_z.mpr h)))) (fun c7 => ?_)
  refine lv_iconst (v := -1) hx hb dX1_tick_10 (by decide) ?_
  exact kret_i F hI dX1_tick_11 (⟨rfl, rfl⟩)
end XC4
end
section
/-! the class: what it answers -/
def x_wval (st : XS) (a : Nat) : Nat → Int32
  | 0 => cf st a 3
  | 1 => cf st a 4
  | 2 => cf st a 1
  | 3 => cf st a 5
  | 4 => cf st a 6
  | _ => st.1 2 0 - cf st a 2
def x_waits (st : XS) (n w : Nat) : Int32 := match st.2.1 0 n with
  | none => -9
  | some a => x_wval st a w
def x_rem (st : XS) (n : Nat) : Int32 := match x_recall st n with
  | none => -9
  | some a => if cf st a 10 = 0 then nI 0 else nI 1
def x_kat (st : XS) (x : Int32) : Option Nat := if decide (¬ x < 0 ∧ ¬ nI 20 ≤ x) = true then st.2.1 2 x.toNatClampNeg else none
def x_kval (st : XS) (a : Nat) : Nat → Int32
  | 0 => cf st a 0
  | 1 => cf st a 4
  | 2 => cf st a 1
  | 3 => cf st a 5
  | 4 => cf st a 8
  | 5 => if cf st a 9 = 0 then nI 0 else nI 1
  | _ => cf st a 7
def x_closeL : Nat → Nat → XS → XS
  | 0, _, st => st
  | f + 1, k, st => x_closeL f (k + 1) (xrf st 2 k (st.2.1 2 (k + 1)))
def x_close (st : XS) (i : Nat) : XS := xsub (xrf (x_closeL (19 - i) i st) 2 19 none) 2 2 (nI 1)
def x_take (st : XS) (i a sh : Nat) (w : Int32) : XS := xadd (xsub (xc (xc (x_close st i) a 10 (nI 0)) a 11 (nI 1)) (4 + sh) 1 w) (4 + sh) 2 w
def x_leaveL : Nat → Nat → XS → XS
  | 0, _, st => st
  | f + 1, i, st => x_leaveL f (i + 1) (xset (xadd st (4 + i) 6 (st.1 (4 + i) 5)) (4 + i) 5 (nI 0))
def x_setR (st : XS) (w : Nat) (v : Int32) : XS := xset (if w = 0 ∧ ¬ v = st.1 1 w then x_leaveL 5 0 st else st) 1 w v
def lfS : Nat → Int32
  | 0 => 1
  | 1 => 1
  | 2 => 0
  | 3 => 0
  | 4 => 1
  | _ => 0
def gfS : Nat → Int32
  | 0 => 9
  | 1 => 8000
  | 2 => 9
  | 3 => 1
  | 4 => 20
  | _ => 20
/-- the rows of settings' bounds, which nobody writes -/
def zst (A : Nat → Prop) (U : State) : Prop := ∃ t1 t2, va_Z RX1 "LEAST_SETTINGS" "[I" (.ref t1) A U U.heap ∧ va_T .int t1 6 (fun j => .int (lfS j)) A U U.heap ∧ va_Z RX1 "GREATEST_SETTINGS" "[I" (.ref t2) A U U.heap ∧ va_T .int t2 6 (fun j => .int (gfS j)) A U U.heap
def kMZ {S : Type} (l : Launch) (y : MethodName) (cc : ByteArray) (n : Nat) (r : Option FieldType) (fr lo mc ms : Nat) (D : va_G) (tys : List (ClassId × FieldType)) (wo : S → va_W) (av : List Value) (st : S) (post : Option Value → S → Prop) : Prop :=
  ∀ sz : Nat, Met l y (.code y cc n r :: wsL_law) { frames := fr, cells := mc, slots := ms, locals := lo } (va_Pc av (fun U => kPre D tys wo st sz U ∧ zst (va_A (wo st) sz) U)) (kQ D tys wo post (va_A (wo st) sz)) mc ms (va_A (wo st) sz)
theorem kMZ_intro {S : Type} {l : Launch} {y : MethodName} {cc : ByteArray} {n : Nat} {r : Option FieldType} {fr lo mc ms : Nat} {D : va_G} {tys : List (ClassId × FieldType)} {wo : S → va_W} {av : List Value} {st : S} {post : Option Value → S → Prop}
    (hy : plainName y.cls = true) (hn : (lg_sl av).length ≤ n)
    (body : ∀ (p : Program) (e : Env) (s : State) (m : MethodId) (below : List Frame) (meth : Method) (c : Code) (A : Nat → Prop) (ls : Array Slot), kF p s m av.toArray meth c y cc n r D tys → (∀ q, s.heap.size ≤ q → A q) → kI D wo A s.heap st s.heap [] → zst A s → lv_has ls n (lv_args 0 av) →
      W p l e { frames := fr, cells := mc, slots := ms, locals := lo } s m av.toArray below meth c s.heap [] 0 0 (MQ below (kQ D tys wo post A) av.toArray s mc ms A) (F0 m 0 ls [])) : kMZ l y cc n r fr lo mc ms D tys wo av st post := by
  intro sz
  refine Met.ofW (cc := cc) (maxL := n) (ret := r) hy rfl ?_
  intro p e s m args below meth c s₁ B hml hv
  obtain ⟨rfl, ⟨hsz, hP, hK, hD0⟩, hZ⟩ := hv
  subst hsz
  have hD := hD0.self (sz := s.heap.size)
  have hts := atoms_spec (ws := .code y cc n r :: wsL_law) B.pre
  have hl := lv_entry av (n := n) hn
  rw [lg_entry_eq]
  exact body p e s m below meth c _ _ ⟨B.exec, B.bytes, B.returns, hml, findClass_of_methodNamed B.named, fun w h => hts w (List.mem_cons_of_mem _ h), B.notSynchronized, hK, (name_of_methodNamed B.named B.method).1⟩ (fun q h => Or.inr h) ⟨hP, hD, va_S.rf⟩ hZ hl
theorem isB_n {x : Int32} {N : Nat} (hN : N < 2 ^ 31) (h : decide (¬ x < 0 ∧ ¬ nI N ≤ x) = true) : ∃ j, j < N ∧ x = nI j := by
  rw [decide_eq_true_eq] at h
  obtain ⟨j, hj, rfl⟩ := nI_of h.1
  have := h.2
  rw [nI_leI hN hj] at this
  exact ⟨j, by omega, rfl⟩
theorem x_kat_n (st : XS) {i : Nat} (hi : i < 20) : x_kat st (nI i) = st.2.1 2 i := by
  rw [x_kat, if_pos (isB_t hi (by decide)), nI_clamp (by omega)]
theorem x_kat_s {st : XS} {x : Int32} {a : Nat} (h : x_kat st x = some a) : ∃ i, i < 20 ∧ x = nI i ∧ st.2.1 2 i = some a := by
  unfold x_kat at h
  split at h
  · rename_i q
    obtain ⟨j, hj, rfl⟩ := isB_n (by decide) q
    rw [nI_clamp (by omega)] at h
    exact ⟨j, hj, rfl, h⟩
  · cases h
section XC5
variable (l : Launch) {D : va_G} {g : Nat → Nat} {K : Nat → ClassId}
theorem xc_waits_bad (st : XS) (x w : Int32) (h : decide (¬ x < 0 ∧ ¬ nI 100 ≤ x) = false ∨ decide (¬ w < 0 ∧ ¬ nI 6 ≤ w) = false) : kM l yX1_waits cX1_waits 4 (some .int) 1 21 0 0 D (xty K) (xw g K) [.ref (g 0), .int x, .int w] st (fun v u => v = some (.int (-1)) ∧ u = st) := by
  refine kM_intro (by decide) (Nat.le_of_ble_eq_true rfl) ?_
  intro p e s m below meth c A ls F hA hI hl
  obtain ⟨hx, hb, hr, hml, hown, hts, hlk, hK, hnm⟩ := id F
  have hl : lv_has ls 4 [(0, .ref (g 0)), (1, .int x), (2, .int w)] := hl
  refine lv_iload_n hx hb dX1_waits_0 rfl (lv_at hl 1 rfl) ?_
  refine lv_bipush (v := nI 100) hx hb dX1_waits_1 (by decide) ?_
  refine kcallS (rest := []) F hA hI (xc_isBelow l _ _ _) kgX1_52 hl.1 rfl rfl (Nat.le_of_ble_eq_true rfl) dX1_waits_3 ⟨Nat.le_of_ble_eq_true rfl, Nat.le_of_ble_eq_true rfl⟩ ⟨Nat.le_of_ble_eq_true rfl, Nat.le_of_ble_eq_true rfl⟩ (fun vq uq H locs hp hI => ?_)
  obtain ⟨rfl, hu⟩ := hp
  rw [hu] at hI
  clear hu
  refine kstk (b := .int _ :: []) rfl ?_
  refine lv_if_eq (tgt := 18) hx hb dX1_waits_6 (by decide) (fun c6 => ?_) (fun c6 => ?_)
  ·
    rw [bI_z] at c6
    refine lv_iconst (v := -1) hx hb dX1_waits_18 (by decide) ?_
    exact kret_i F hI dX1_waits_19 (⟨rfl, rfl⟩)
  ·
    rw [bI_z] at c6
    refine lv_iload_n hx hb dX1_waits_9 rfl (lv_at hl 2 rfl) ?_
    refine lv_bipush (v := nI 6) hx hb dX1_waits_10 (by decide) ?_
    refine kcallS (rest := []) F hA hI (xc_isBelow l _ _ _) kgX1_52 hl.1 rfl rfl (Nat.le_of_ble_eq_true rfl) dX1_waits_12 ⟨Nat.le_of_ble_eq_true rfl, Nat.le_of_ble_eq_true rfl⟩ ⟨Nat.le_of_ble_eq_true rfl, Nat.le_of_ble_eq_true rfl⟩ (fun vq uq H locs hp hI => ?_)
    obtain ⟨rfl, hu⟩ := hp
    rw [hu] at hI
    clear hu
    refine kstk (b := .int _ :: []) rfl ?_
    refine lv_if_ne (tgt := 20) hx hb dX1_waits_15 (by decide) (fun c15 => absurd c15 ((fun q => q (bI_z.mpr (h.resolve_left c6))))) (fun c15 => ?_)
    refine lv_iconst (v := -1) hx hb dX1_waits_18 (by decide) ?_
    exact kret_i F hI dX1_waits_19 (⟨rfl, rfl⟩)
theorem xc_waits (st : XS) (n w : Nat) (hn : n < 100) (hw : w < 6) (ha : ∀ a, st.2.1 0 n = some a → a ∈ st.2.2.2.1) : kM l yX1_waits cX1_waits 4 (some .int) 1 21 0 0 D (xty K) (xw g K) [.ref (g 0), .int (nI n), .int (nI w)] st (fun v u => v = some (.int (x_waits st n w)) ∧ u = st) := by
  refine kM_intro (by decide) (Nat.le_of_ble_eq_true rfl) ?_
  intro p e s m below meth c A ls F hA hI hl
  obtain ⟨hx, hb, hr, hml, hown, hts, hlk, hK, hnm⟩ := id F
  have hl : lv_has ls 4 [(0, .ref (g 0)), (1, .int (nI n)), (2, .int (nI w))] := hl
  have g1 := isB_t (show n < 100 by omega) (by decide)
  have g2 := isB_t (show w < 6 by omega) (by decide)
  rcases ho : st.2.1 0 n with _ | a
  · have hl := hl
    refine lv_iload_n hx hb dX1_waits_0 rfl (lv_at hl 1 rfl) ?_
    refine lv_bipush (v := nI 100) hx hb dX1_waits_1 (by decide) ?_
    refine kcallS (rest := []) F hA hI (xc_isBelow l _ _ _) kgX1_52 hl.1 rfl rfl (Nat.le_of_ble_eq_true rfl) dX1_waits_3 ⟨Nat.le_of_ble_eq_true rfl, Nat.le_of_ble_eq_true rfl⟩ ⟨Nat.le_of_ble_eq_true rfl, Nat.le_of_ble_eq_true rfl⟩ (fun vq uq H locs hp hI => ?_)
    obtain ⟨rfl, hu⟩ := hp
    rw [hu] at hI
    clear hu
    refine kstk (b := .int _ :: []) rfl ?_
    refine lv_if_eq (tgt := 18) hx hb dX1_waits_6 (by decide) (fun c6 => absurd c6 ((fun q => by rw [bI_z, g1] at q; cases q))) (fun c6 => ?_)
    refine lv_iload_n hx hb dX1_waits_9 rfl (lv_at hl 2 rfl) ?_
    refine lv_bipush (v := nI 6) hx hb dX1_waits_10 (by decide) ?_
    refine kcallS (rest := []) F hA hI (xc_isBelow l _ _ _) kgX1_52 hl.1 rfl rfl (Nat.le_of_ble_eq_true rfl) dX1_waits_12 ⟨Nat.le_of_ble_eq_true rfl, Nat.le_of_ble_eq_true rfl⟩ ⟨Nat.le_of_ble_eq_true rfl, Nat.le_of_ble_eq_true rfl⟩ (fun vq uq H locs hp hI => ?_)
    obtain ⟨rfl, hu⟩ := hp
    rw [hu] at hI
    clear hu
    refine kstk (b := .int _ :: []) rfl ?_
    refine lv_if_ne (tgt := 20) hx hb dX1_waits_15 (by decide) (fun c15 => ?_) (fun c15 => absurd c15 ((fun q => by rw [bI_z, g2] at q; cases q)))
    refine lv_aload_n hx hb dX1_waits_20 rfl (lv_at hl 0 rfl) ?_
    refine x_get F hI 5 (by decide) rfl flX1_38 dX1_waits_21 ?_
    refine lv_iload_n hx hb dX1_waits_24 rfl (lv_at hl 1 rfl) ?_
    refine x_rld F hI 0 (show n < 100 by omega) rfl dX1_waits_25 ?_
    refine kstk (b := .null :: _) (by rw [ho]; rfl) ?_
    refine lv_astore_nN (lv' := [(3, .null), (0, .ref _), (1, .int _), (2, .int _)]) hx hb dX1_waits_26 rfl hl (by decide) rfl (fun ls hl => ?_)
    refine lv_aload_nN hx hb dX1_waits_27 rfl (lv_at hl 0 rfl) ?_
    refine lv_ifnonnullN hx hb dX1_waits_28 ?_
    refine lv_bipush (v := -9) hx hb dX1_waits_31 (by decide) ?_
    exact kret_i F hI dX1_waits_33 (⟨by simp [x_waits, ho], rfl⟩)
  have ha := ha a ho
  rcases (show w = 0 ∨ w = 1 ∨ w = 2 ∨ w = 3 ∨ w = 4 ∨ w = 5 by omega) with rfl | rfl | rfl | rfl | rfl | rfl
  · have hl := hl
    refine lv_iload_n hx hb dX1_waits_0 rfl (lv_at hl 1 rfl) ?_
    refine lv_bipush (v := nI 100) hx hb dX1_waits_1 (by decide) ?_
    refine kcallS (rest := []) F hA hI (xc_isBelow l _ _ _) kgX1_52 hl.1 rfl rfl (Nat.le_of_ble_eq_true rfl) dX1_waits_3 ⟨Nat.le_of_ble_eq_true rfl, Nat.le_of_ble_eq_true rfl⟩ ⟨Nat.le_of_ble_eq_true rfl, Nat.le_of_ble_eq_true rfl⟩ (fun vq uq H locs hp hI => ?_)
    obtain ⟨rfl, hu⟩ := hp
    rw [hu] at hI
    clear hu
    refine kstk (b := .int _ :: []) rfl ?_
    refine lv_if_eq (tgt := 18) hx hb dX1_waits_6 (by decide) (fun c6 => absurd c6 ((fun q => by rw [bI_z, g1] at q; cases q))) (fun c6 => ?_)
    refine lv_iload_n hx hb dX1_waits_9 rfl (lv_at hl 2 rfl) ?_
    refine lv_bipush (v := nI 6) hx hb dX1_waits_10 (by decide) ?_
    refine kcallS (rest := []) F hA hI (xc_isBelow l _ _ _) kgX1_52 hl.1 rfl rfl (Nat.le_of_ble_eq_true rfl) dX1_waits_12 ⟨Nat.le_of_ble_eq_true rfl, Nat.le_of_ble_eq_true rfl⟩ ⟨Nat.le_of_ble_eq_true rfl, Nat.le_of_ble_eq_true rfl⟩ (fun vq uq H locs hp hI => ?_)
    obtain ⟨rfl, hu⟩ := hp
    rw [hu] at hI
    clear hu
    refine kstk (b := .int _ :: []) rfl ?_
    refine lv_if_ne (tgt := 20) hx hb dX1_waits_15 (by decide) (fun c15 => ?_) (fun c15 => absurd c15 ((fun q => by rw [bI_z, g2] at q; cases q)))
    refine lv_aload_n hx hb dX1_waits_20 rfl (lv_at hl 0 rfl) ?_
    refine x_get F hI 5 (by decide) rfl flX1_38 dX1_waits_21 ?_
    refine lv_iload_n hx hb dX1_waits_24 rfl (lv_at hl 1 rfl) ?_
    refine x_rld F hI 0 (show n < 100 by omega) rfl dX1_waits_25 ?_
    refine kstk (b := .ref a :: _) (by rw [ho]; rfl) ?_
    refine lv_astore_n (lv' := [(3, .ref _), (0, .ref _), (1, .int _), (2, .int _)]) hx hb dX1_waits_26 rfl hl (by decide) rfl (fun ls hl => ?_)
    refine lv_aload_n hx hb dX1_waits_27 rfl (lv_at hl 0 rfl) ?_
    refine lv_ifnonnull (tgt := 34) hx hb dX1_waits_28 (by decide) ?_
    refine lv_iload_n hx hb dX1_waits_34 rfl (lv_at hl 3 rfl) ?_
    refine lv_tableIn (off := 33) (tgt := 68) hx hb dX1_waits_35 (by decide) (by decide) (by decide) (by decide) ?_
    refine lv_aload_n hx hb dX1_waits_68 rfl (lv_at hl 0 rfl) ?_
    refine x_cget F hI ha 3 (by decide) rfl flX1_105 dX1_waits_69 ?_
    exact kret_i F hI dX1_waits_72 (⟨by simp [x_waits, ho, x_wval], rfl⟩)
  · have hl := hl
    refine lv_iload_n hx hb dX1_waits_0 rfl (lv_at hl 1 rfl) ?_
    refine lv_bipush (v := nI 100) hx hb dX1_waits_1 (by decide) ?_
    refine kcallS (rest := []) F hA hI (xc_isBelow l _ _ _) kgX1_52 hl.1 rfl rfl (Nat.le_of_ble_eq_true rfl) dX1_waits_3 ⟨Nat.le_of_ble_eq_true rfl, Nat.le_of_ble_eq_true rfl⟩ ⟨Nat.le_of_ble_eq_true rfl, Nat.le_of_ble_eq_true rfl⟩ (fun vq uq H locs hp hI => ?_)
    obtain ⟨rfl, hu⟩ := hp
    rw [hu] at hI
    clear hu
    refine kstk (b := .int _ :: []) rfl ?_
    refine lv_if_eq (tgt := 18) hx hb dX1_waits_6 (by decide) (fun c6 => absurd c6 ((fun q => by rw [bI_z, g1] at q; cases q))) (fun c6 => ?_)
    refine lv_iload_n hx hb dX1_waits_9 rfl (lv_at hl 2 rfl) ?_
    refine lv_bipush (v := nI 6) hx hb dX1_waits_10 (by decide) ?_
    refine kcallS (rest := []) F hA hI (xc_isBelow l _ _ _) kgX1_52 hl.1 rfl rfl (Nat.le_of_ble_eq_true rfl) dX1_waits_12 ⟨Nat.le_of_ble_eq_true rfl, Nat.le_of_ble_eq_true rfl⟩ ⟨Nat.le_of_ble_eq_true rfl, Nat.le_of_ble_eq_true rfl⟩ (fun vq uq H locs hp hI => ?_)
    obtain ⟨rfl, hu⟩ := hp
    rw [hu] at hI
    clear hu
    refine kstk (b := .int _ :: []) rfl ?_
    refine lv_if_ne (tgt := 20) hx hb dX1_waits_15 (by decide) (fun c15 => ?_) (fun c15 => absurd c15 ((fun q => by rw [bI_z, g2] at q; cases q)))
    refine lv_aload_n hx hb dX1_waits_20 rfl (lv_at hl 0 rfl) ?_
    refine x_get F hI 5 (by decide) rfl flX1_38 dX1_waits_21 ?_
    refine lv_iload_n hx hb dX1_waits_24 rfl (lv_at hl 1 rfl) ?_
    refine x_rld F hI 0 (show n < 100 by omega) rfl dX1_waits_25 ?_
    refine kstk (b := .ref a :: _) (by rw [ho]; rfl) ?_
    refine lv_astore_n (lv' := [(3, .ref _), (0, .ref _), (1, .int _), (2, .int _)]) hx hb dX1_waits_26 rfl hl (by decide) rfl (fun ls hl => ?_)
    refine lv_aload_n hx hb dX1_waits_27 rfl (lv_at hl 0 rfl) ?_
    refine lv_ifnonnull (tgt := 34) hx hb dX1_waits_28 (by decide) ?_
    refine lv_iload_n hx hb dX1_waits_34 rfl (lv_at hl 3 rfl) ?_
    refine lv_tableIn (off := 38) (tgt := 73) hx hb dX1_waits_35 (by decide) (by decide) (by decide) (by decide) ?_
    refine lv_aload_n hx hb dX1_waits_73 rfl (lv_at hl 0 rfl) ?_
    refine x_cget F hI ha 4 (by decide) rfl flX1_109 dX1_waits_74 ?_
    exact kret_i F hI dX1_waits_77 (⟨by simp [x_waits, ho, x_wval], rfl⟩)
  · have hl := hl
    refine lv_iload_n hx hb dX1_waits_0 rfl (lv_at hl 1 rfl) ?_
    refine lv_bipush (v := nI 100) hx hb dX1_waits_1 (by decide) ?_
    refine kcallS (rest := []) F hA hI (xc_isBelow l _ _ _) kgX1_52 hl.1 rfl rfl (Nat.le_of_ble_eq_true rfl) dX1_waits_3 ⟨Nat.le_of_ble_eq_true rfl, Nat.le_of_ble_eq_true rfl⟩ ⟨Nat.le_of_ble_eq_true rfl, Nat.le_of_ble_eq_true rfl⟩ (fun vq uq H locs hp hI => ?_)
    obtain ⟨rfl, hu⟩ := hp
    rw [hu] at hI
    clear hu
    refine kstk (b := .int _ :: []) rfl ?_
    refine lv_if_eq (tgt := 18) hx hb dX1_waits_6 (by decide) (fun c6 => absurd c6 ((fun q => by rw [bI_z, g1] at q; cases q))) (fun c6 => ?_)
    refine lv_iload_n hx hb dX1_waits_9 rfl (lv_at hl 2 rfl) ?_
    refine lv_bipush (v := nI 6) hx hb dX1_waits_10 (by decide) ?_
    refine kcallS (rest := []) F hA hI (xc_isBelow l _ _ _) kgX1_52 hl.1 rfl rfl (Nat.le_of_ble_eq_true rfl) dX1_waits_12 ⟨Nat.le_of_ble_eq_true rfl, Nat.le_of_ble_eq_true rfl⟩ ⟨Nat.le_of_ble_eq_true rfl, Nat.le_of_ble_eq_true rfl⟩ (fun vq uq H locs hp hI => ?_)
    obtain ⟨rfl, hu⟩ := hp
    rw [hu] at hI
    clear hu
    refine kstk (b := .int _ :: []) rfl ?_
    refine lv_if_ne (tgt := 20) hx hb dX1_waits_15 (by decide) (fun c15 => ?_) (fun c15 => absurd c15 ((fun q => by rw [bI_z, g2] at q; cases q)))
    refine lv_aload_n hx hb dX1_waits_20 rfl (lv_at hl 0 rfl) ?_
    refine x_get F hI 5 (by decide) rfl flX1_38 dX1_waits_21 ?_
    refine lv_iload_n hx hb dX1_waits_24 rfl (lv_at hl 1 rfl) ?_
    refine x_rld F hI 0 (show n < 100 by omega) rfl dX1_waits_25 ?_
    refine kstk (b := .ref a :: _) (by rw [ho]; rfl) ?_
    refine lv_astore_n (lv' := [(3, .ref _), (0, .ref _), (1, .int _), (2, .int _)]) hx hb dX1_waits_26 rfl hl (by decide) rfl (fun ls hl => ?_)
    refine lv_aload_n hx hb dX1_waits_27 rfl (lv_at hl 0 rfl) ?_
    refine lv_ifnonnull (tgt := 34) hx hb dX1_waits_28 (by decide) ?_
    refine lv_iload_n hx hb dX1_waits_34 rfl (lv_at hl 3 rfl) ?_
    refine lv_tableIn (off := 43) (tgt := 78) hx hb dX1_waits_35 (by decide) (by decide) (by decide) (by decide) ?_
    refine lv_aload_n hx hb dX1_waits_78 rfl (lv_at hl 0 rfl) ?_
    refine x_cget F hI ha 1 (by decide) rfl flX1_112 dX1_waits_79 ?_
    exact kret_i F hI dX1_waits_82 (⟨by simp [x_waits, ho, x_wval], rfl⟩)
  · have hl := hl
    refine lv_iload_n hx hb dX1_waits_0 rfl (lv_at hl 1 rfl) ?_
    refine lv_bipush (v := nI 100) hx hb dX1_waits_1 (by decide) ?_
    refine kcallS (rest := []) F hA hI (xc_isBelow l _ _ _) kgX1_52 hl.1 rfl rfl (Nat.le_of_ble_eq_true rfl) dX1_waits_3 ⟨Nat.le_of_ble_eq_true rfl, Nat.le_of_ble_eq_true rfl⟩ ⟨Nat.le_of_ble_eq_true rfl, Nat.le_of_ble_eq_true rfl⟩ (fun vq uq H locs hp hI => ?_)
    obtain ⟨rfl, hu⟩ := hp
    rw [hu] at hI
    clear hu
    refine kstk (b := .int _ :: []) rfl ?_
    refine lv_if_eq (tgt := 18) hx hb dX1_waits_6 (by decide) (fun c6 => absurd c6 ((fun q => by rw [bI_z, g1] at q; cases q))) (fun c6 => ?_)
    refine lv_iload_n hx hb dX1_waits_9 rfl (lv_at hl 2 rfl) ?_
    refine lv_bipush (v := nI 6) hx hb dX1_waits_10 (by decide) ?_
    refine kcallS (rest := []) F hA hI (xc_isBelow l _ _ _) kgX1_52 hl.1 rfl rfl (Nat.le_of_ble_eq_true rfl) dX1_waits_12 ⟨Nat.le_of_ble_eq_true rfl, Nat.le_of_ble_eq_true rfl⟩ ⟨Nat.le_of_ble_eq_true rfl, Nat.le_of_ble_eq_true rfl⟩ (fun vq uq H locs hp hI => ?_)
    obtain ⟨rfl, hu⟩ := hp
    rw [hu] at hI
    clear hu
    refine kstk (b := .int _ :: []) rfl ?_
    refine lv_if_ne (tgt := 20) hx hb dX1_waits_15 (by decide) (fun c15 => ?_) (fun c15 => absurd c15 ((fun q => by rw [bI_z, g2] at q; cases q)))
    refine lv_aload_n hx hb dX1_waits_20 rfl (lv_at hl 0 rfl) ?_
    refine x_get F hI 5 (by decide) rfl flX1_38 dX1_waits_21 ?_
    refine lv_iload_n hx hb dX1_waits_24 rfl (lv_at hl 1 rfl) ?_
    refine x_rld F hI 0 (show n < 100 by omega) rfl dX1_waits_25 ?_
    refine kstk (b := .ref a :: _) (by rw [ho]; rfl) ?_
    refine lv_astore_n (lv' := [(3, .ref _), (0, .ref _), (1, .int _), (2, .int _)]) hx hb dX1_waits_26 rfl hl (by decide) rfl (fun ls hl => ?_)
    refine lv_aload_n hx hb dX1_waits_27 rfl (lv_at hl 0 rfl) ?_
    refine lv_ifnonnull (tgt := 34) hx hb dX1_waits_28 (by decide) ?_
    refine lv_iload_n hx hb dX1_waits_34 rfl (lv_at hl 3 rfl) ?_
    refine lv_tableIn (off := 48) (tgt := 83) hx hb dX1_waits_35 (by decide) (by decide) (by decide) (by decide) ?_
    refine lv_aload_n hx hb dX1_waits_83 rfl (lv_at hl 0 rfl) ?_
    refine x_cget F hI ha 5 (by decide) rfl flX1_115 dX1_waits_84 ?_
    exact kret_i F hI dX1_waits_87 (⟨by simp [x_waits, ho, x_wval], rfl⟩)
  · have hl := hl
    refine lv_iload_n hx hb dX1_waits_0 rfl (lv_at hl 1 rfl) ?_
    refine lv_bipush (v := nI 100) hx hb dX1_waits_1 (by decide) ?_
    refine kcallS (rest := []) F hA hI (xc_isBelow l _ _ _) kgX1_52 hl.1 rfl rfl (Nat.le_of_ble_eq_true rfl) dX1_waits_3 ⟨Nat.le_of_ble_eq_true rfl, Nat.le_of_ble_eq_true rfl⟩ ⟨Nat.le_of_ble_eq_true rfl, Nat.le_of_ble_eq_true rfl⟩ (fun vq uq H locs hp hI => ?_)
    obtain ⟨rfl, hu⟩ := hp
    rw [hu] at hI
    clear hu
    refine kstk (b := .int _ :: []) rfl ?_
    refine lv_if_eq (tgt := 18) hx hb dX1_waits_6 (by decide) (fun c6 => absurd c6 ((fun q => by rw [bI_z, g1] at q; cases q))) (fun c6 => ?_)
    refine lv_iload_n hx hb dX1_waits_9 rfl (lv_at hl 2 rfl) ?_
    refine lv_bipush (v := nI 6) hx hb dX1_waits_10 (by decide) ?_
    refine kcallS (rest := []) F hA hI (xc_isBelow l _ _ _) kgX1_52 hl.1 rfl rfl (Nat.le_of_ble_eq_true rfl) dX1_waits_12 ⟨Nat.le_of_ble_eq_true rfl, Nat.le_of_ble_eq_true rfl⟩ ⟨Nat.le_of_ble_eq_true rfl, Nat.le_of_ble_eq_true rfl⟩ (fun vq uq H locs hp hI => ?_)
    obtain ⟨rfl, hu⟩ := hp
    rw [hu] at hI
    clear hu
    refine kstk (b := .int _ :: []) rfl ?_
    refine lv_if_ne (tgt := 20) hx hb dX1_waits_15 (by decide) (fun c15 => ?_) (fun c15 => absurd c15 ((fun q => by rw [bI_z, g2] at q; cases q)))
    refine lv_aload_n hx hb dX1_waits_20 rfl (lv_at hl 0 rfl) ?_
    refine x_get F hI 5 (by decide) rfl flX1_38 dX1_waits_21 ?_
    refine lv_iload_n hx hb dX1_waits_24 rfl (lv_at hl 1 rfl) ?_
    refine x_rld F hI 0 (show n < 100 by omega) rfl dX1_waits_25 ?_
    refine kstk (b := .ref a :: _) (by rw [ho]; rfl) ?_
    refine lv_astore_n (lv' := [(3, .ref _), (0, .ref _), (1, .int _), (2, .int _)]) hx hb dX1_waits_26 rfl hl (by decide) rfl (fun ls hl => ?_)
    refine lv_aload_n hx hb dX1_waits_27 rfl (lv_at hl 0 rfl) ?_
    refine lv_ifnonnull (tgt := 34) hx hb dX1_waits_28 (by decide) ?_
    refine lv_iload_n hx hb dX1_waits_34 rfl (lv_at hl 3 rfl) ?_
    refine lv_tableIn (off := 53) (tgt := 88) hx hb dX1_waits_35 (by decide) (by decide) (by decide) (by decide) ?_
    refine lv_aload_n hx hb dX1_waits_88 rfl (lv_at hl 0 rfl) ?_
    refine x_cget F hI ha 6 (by decide) rfl flX1_118 dX1_waits_89 ?_
    exact kret_i F hI dX1_waits_92 (⟨by simp [x_waits, ho, x_wval], rfl⟩)
  · have hl := hl
    refine lv_iload_n hx hb dX1_waits_0 rfl (lv_at hl 1 rfl) ?_
    refine lv_bipush (v := nI 100) hx hb dX1_waits_1 (by decide) ?_
    refine kcallS (rest := []) F hA hI (xc_isBelow l _ _ _) kgX1_52 hl.1 rfl rfl (Nat.le_of_ble_eq_true rfl) dX1_waits_3 ⟨Nat.le_of_ble_eq_true rfl, Nat.le_of_ble_eq_true rfl⟩ ⟨Nat.le_of_ble_eq_true rfl, Nat.le_of_ble_eq_true rfl⟩ (fun vq uq H locs hp hI => ?_)
    obtain ⟨rfl, hu⟩ := hp
    rw [hu] at hI
    clear hu
    refine kstk (b := .int _ :: []) rfl ?_
    refine lv_if_eq (tgt := 18) hx hb dX1_waits_6 (by decide) (fun c6 => absurd c6 ((fun q => by rw [bI_z, g1] at q; cases q))) (fun c6 => ?_)
    refine lv_iload_n hx hb dX1_waits_9 rfl (lv_at hl 2 rfl) ?_
    refine lv_bipush (v := nI 6) hx hb dX1_waits_10 (by decide) ?_
    refine kcallS (rest := []) F hA hI (xc_isBelow l _ _ _) kgX1_52 hl.1 rfl rfl (Nat.le_of_ble_eq_true rfl) dX1_waits_12 ⟨Nat.le_of_ble_eq_true rfl, Nat.le_of_ble_eq_true rfl⟩ ⟨Nat.le_of_ble_eq_true rfl, Nat.le_of_ble_eq_true rfl⟩ (fun vq uq H locs hp hI => ?_)
    obtain ⟨rfl, hu⟩ := hp
    rw [hu] at hI
    clear hu
    refine kstk (b := .int _ :: []) rfl ?_
    refine lv_if_ne (tgt := 20) hx hb dX1_waits_15 (by decide) (fun c15 => ?_) (fun c15 => absurd c15 ((fun q => by rw [bI_z, g2] at q; cases q)))
    refine lv_aload_n hx hb dX1_waits_20 rfl (lv_at hl 0 rfl) ?_
    refine x_get F hI 5 (by decide) rfl flX1_38 dX1_waits_21 ?_
    refine lv_iload_n hx hb dX1_waits_24 rfl (lv_at hl 1 rfl) ?_
    refine x_rld F hI 0 (show n < 100 by omega) rfl dX1_waits_25 ?_
    refine kstk (b := .ref a :: _) (by rw [ho]; rfl) ?_
    refine lv_astore_n (lv' := [(3, .ref _), (0, .ref _), (1, .int _), (2, .int _)]) hx hb dX1_waits_26 rfl hl (by decide) rfl (fun ls hl => ?_)
    refine lv_aload_n hx hb dX1_waits_27 rfl (lv_at hl 0 rfl) ?_
    refine lv_ifnonnull (tgt := 34) hx hb dX1_waits_28 (by decide) ?_
    refine lv_iload_n hx hb dX1_waits_34 rfl (lv_at hl 3 rfl) ?_
    refine lv_tableOut (tgt := 93) hx hb dX1_waits_35 (by decide) (by decide) ?_
    refine lv_aload_n hx hb dX1_waits_93 rfl (lv_at hl 1 rfl) ?_
    refine x_get F hI 2 (by decide) rfl flX1_25 dX1_waits_94 ?_
    refine lv_iconst (v := nI 0) hx hb dX1_waits_97 (by decide) ?_
    refine x_ald F hI 2 (show 0 < 13 by omega) rfl dX1_waits_98 ?_
    refine lv_aload_n hx hb dX1_waits_99 rfl (lv_at hl 0 rfl) ?_
    refine x_cget F hI ha 2 (by decide) rfl flX1_121 dX1_waits_100 ?_
    refine lv_isub hx hb dX1_waits_103 ?_
    exact kret_i F hI dX1_waits_104 (⟨by simp [x_waits, ho, x_wval], rfl⟩)
theorem xc_rem_bad (st : XS) (x : Int32) (h : decide (¬ x < 0 ∧ ¬ nI 100 ≤ x) = false) : kM l yX1_remembered cX1_remembered 3 (some .int) 1 22 0 0 D (xty K) (xw g K) [.ref (g 0), .int x] st (fun v u => v = some (.int (-1)) ∧ u = st) := by
  refine kM_intro (by decide) (Nat.le_of_ble_eq_true rfl) ?_
  intro p e s m below meth c A ls F hA hI hl
  obtain ⟨hx, hb, hr, hml, hown, hts, hlk, hK, hnm⟩ := id F
  have hl : lv_has ls 3 [(0, .ref (g 0)), (1, .int x)] := hl
  refine lv_iload_n hx hb dX1_remembered_0 rfl (lv_at hl 1 rfl) ?_
  refine lv_bipush (v := nI 100) hx hb dX1_remembered_1 (by decide) ?_
  refine kcallS (rest := []) F hA hI (xc_isBelow l _ _ _) kgX1_52 hl.1 rfl rfl (Nat.le_of_ble_eq_true rfl) dX1_remembered_3 ⟨Nat.le_of_ble_eq_true rfl, Nat.le_of_ble_eq_true rfl⟩ ⟨Nat.le_of_ble_eq_true rfl, Nat.le_of_ble_eq_true rfl⟩ (fun vq uq H locs hp hI => ?_)
  obtain ⟨rfl, hu⟩ := hp
  rw [hu] at hI
  clear hu
  refine kstk (b := .int _ :: []) rfl ?_
  refine lv_if_ne (tgt := 11) hx hb dX1_remembered_6 (by decide) (fun c6 => absurd c6 ((fun q => q (bI_z.mpr h)))) (fun c6 => ?_)
  refine lv_iconst (v := -1) hx hb dX1_remembered_9 (by decide) ?_
  exact kret_i F hI dX1_remembered_10 (⟨rfl, rfl⟩)
theorem x_recall_s {st : XS} {n a : Nat} (h : x_recall st n = some a) : st.2.1 1 n = some a := by
  unfold x_recall at h
  cases hd : st.2.1 1 n with
  | none => rw [hd] at h; cases h
  | some b =>
    rw [hd] at h
    dsimp only at h
    split at h
    · cases h; rfl
    · cases h
theorem xc_rem (st : XS) (n : Nat) (hn : n < 100) (hd : ∀ a, st.2.1 1 n = some a → a ∈ st.2.2.2.1) : kM l yX1_remembered cX1_remembered 3 (some .int) 1 22 0 0 D (xty K) (xw g K) [.ref (g 0), .int (nI n)] st (fun v u => v = some (.int (x_rem st n)) ∧ u = st) := by
  refine kM_intro (by decide) (Nat.le_of_ble_eq_true rfl) ?_
  intro p e s m below meth c A ls F hA hI hl
  obtain ⟨hx, hb, hr, hml, hown, hts, hlk, hK, hnm⟩ := id F
  have hl : lv_has ls 3 [(0, .ref (g 0)), (1, .int (nI n))] := hl
  have g1 := isB_t (show n < 100 by omega) (by decide)
  rcases ho : x_recall st n with _ | a
  · have hl := hl
    refine lv_iload_n hx hb dX1_remembered_0 rfl (lv_at hl 1 rfl) ?_
    refine lv_bipush (v := nI 100) hx hb dX1_remembered_1 (by decide) ?_
    refine kcallS (rest := []) F hA hI (xc_isBelow l _ _ _) kgX1_52 hl.1 rfl rfl (Nat.le_of_ble_eq_true rfl) dX1_remembered_3 ⟨Nat.le_of_ble_eq_true rfl, Nat.le_of_ble_eq_true rfl⟩ ⟨Nat.le_of_ble_eq_true rfl, Nat.le_of_ble_eq_true rfl⟩ (fun vq uq H locs hp hI => ?_)
    obtain ⟨rfl, hu⟩ := hp
    rw [hu] at hI
    clear hu
    refine kstk (b := .int _ :: []) rfl ?_
    refine lv_if_ne (tgt := 11) hx hb dX1_remembered_6 (by decide) (fun c6 => ?_) (fun c6 => absurd c6 ((fun q => by rw [bI_z, g1] at q; cases q)))
    refine lv_aload_n hx hb dX1_remembered_11 rfl (lv_at hl 0 rfl) ?_
    refine lv_iload_n hx hb dX1_remembered_12 rfl (lv_at hl 1 rfl) ?_
    refine kcallV (rest := []) F hA hI (xc_recall l _ n hn hd) kgX1_88 (x_rec F hI) hl.1 rfl rfl (Nat.le_of_ble_eq_true rfl) dX1_remembered_13 ⟨Nat.le_of_ble_eq_true rfl, Nat.le_of_ble_eq_true rfl⟩ ⟨Nat.le_of_ble_eq_true rfl, Nat.le_of_ble_eq_true rfl⟩ (fun vq uq H locs hp hI => ?_)
    obtain ⟨rfl, hu⟩ := hp
    rw [hu] at hI
    clear hu
    refine kstk (b := .null :: []) (by rw [ho]; rfl) ?_
    refine lv_astore_nN (lv' := [(2, .null), (0, .ref _), (1, .int _)]) hx hb dX1_remembered_16 rfl hl (by decide) rfl (fun ls hl => ?_)
    refine lv_aload_nN hx hb dX1_remembered_17 rfl (lv_at hl 0 rfl) ?_
    refine lv_ifnonnullN hx hb dX1_remembered_18 ?_
    refine lv_bipush (v := -9) hx hb dX1_remembered_21 (by decide) ?_
    exact kret_i F hI dX1_remembered_23 (⟨by simp [x_rem, ho], rfl⟩)
  · have ha := hd a (x_recall_s ho)
    refine lv_iload_n hx hb dX1_remembered_0 rfl (lv_at hl 1 rfl) ?_
    refine lv_bipush (v := nI 100) hx hb dX1_remembered_1 (by decide) ?_
    refine kcallS (rest := []) F hA hI (xc_isBelow l _ _ _) kgX1_52 hl.1 rfl rfl (Nat.le_of_ble_eq_true rfl) dX1_remembered_3 ⟨Nat.le_of_ble_eq_true rfl, Nat.le_of_ble_eq_true rfl⟩ ⟨Nat.le_of_ble_eq_true rfl, Nat.le_of_ble_eq_true rfl⟩ (fun vq uq H locs hp hI => ?_)
    obtain ⟨rfl, hu⟩ := hp
    rw [hu] at hI
    clear hu
    refine kstk (b := .int _ :: []) rfl ?_
    refine lv_if_ne (tgt := 11) hx hb dX1_remembered_6 (by decide) (fun c6 => ?_) (fun c6 => absurd c6 ((fun q => by rw [bI_z, g1] at q; cases q)))
    refine lv_aload_n hx hb dX1_remembered_11 rfl (lv_at hl 0 rfl) ?_
    refine lv_iload_n hx hb dX1_remembered_12 rfl (lv_at hl 1 rfl) ?_
    refine kcallV (rest := []) F hA hI (xc_recall l _ n hn hd) kgX1_88 (x_rec F hI) hl.1 rfl rfl (Nat.le_of_ble_eq_true rfl) dX1_remembered_13 ⟨Nat.le_of_ble_eq_true rfl, Nat.le_of_ble_eq_true rfl⟩ ⟨Nat.le_of_ble_eq_true rfl, Nat.le_of_ble_eq_true rfl⟩ (fun vq uq H locs hp hI => ?_)
    obtain ⟨rfl, hu⟩ := hp
    rw [hu] at hI
    clear hu
    refine kstk (b := .ref a :: []) (by rw [ho]; rfl) ?_
    refine lv_astore_n (lv' := [(2, .ref _), (0, .ref _), (1, .int _)]) hx hb dX1_remembered_16 rfl hl (by decide) rfl (fun ls hl => ?_)
    refine lv_aload_n hx hb dX1_remembered_17 rfl (lv_at hl 0 rfl) ?_
    refine lv_ifnonnull (tgt := 24) hx hb dX1_remembered_18 (by decide) ?_
    refine lv_aload_n hx hb dX1_remembered_24 rfl (lv_at hl 0 rfl) ?_
    refine x_cget F hI ha 10 (by decide) rfl flX1_124 dX1_remembered_25 ?_
    refine lv_if_eq (tgt := 35) hx hb dX1_remembered_28 (by decide) (fun c28 => ?_) (fun c28 => ?_)
    ·
      refine lv_iconst (v := nI 0) hx hb dX1_remembered_35 (by decide) ?_
      exact kret_i F hI dX1_remembered_36 (⟨by simp [x_rem, ho, c28], rfl⟩)
    ·
      refine lv_iconst (v := nI 1) hx hb dX1_remembered_31 (by decide) ?_
      refine lv_goto (tgt := 36) hx hb dX1_remembered_32 (by decide) ?_
      exact kret_i F hI dX1_remembered_36 (⟨by simp [x_rem, ho, c28], rfl⟩)
theorem xc_keptAt (st : XS) (x : Int32) : kM l yX1_keptAt cX1_keptAt 2 (some (.object "CallKeepers$Call")) 1 21 0 0 D (xty K) (xw g K) [.ref (g 0), .int x] st (fun v u => v = some (va_rf (x_kat st x)) ∧ u = st) := by
  refine kM_intro (by decide) (Nat.le_of_ble_eq_true rfl) ?_
  intro p e s m below meth c A ls F hA hI hl
  obtain ⟨hx, hb, hr, hml, hown, hts, hlk, hK, hnm⟩ := id F
  have hl : lv_has ls 2 [(0, .ref (g 0)), (1, .int x)] := hl
  by_cases h : decide (¬ x < 0 ∧ ¬ nI 20 ≤ x) = true
  · obtain ⟨i, hi, rfl⟩ := isB_n (by decide) h
    refine lv_iload_n hx hb dX1_keptAt_0 rfl (lv_at hl 1 rfl) ?_
    refine lv_bipush (v := nI 20) hx hb dX1_keptAt_1 (by decide) ?_
    refine kcallS (rest := []) F hA hI (xc_isBelow l _ _ _) kgX1_52 hl.1 rfl rfl (Nat.le_of_ble_eq_true rfl) dX1_keptAt_3 ⟨Nat.le_of_ble_eq_true rfl, Nat.le_of_ble_eq_true rfl⟩ ⟨Nat.le_of_ble_eq_true rfl, Nat.le_of_ble_eq_true rfl⟩ (fun vq uq H locs hp hI => ?_)
    obtain ⟨rfl, hu⟩ := hp
    rw [hu] at hI
    clear hu
    refine kstk (b := .int _ :: []) rfl ?_
    refine lv_if_eq (tgt := 18) hx hb dX1_keptAt_6 (by decide) (fun c6 => absurd c6 ((fun q => by rw [bI_z, h] at q; cases q))) (fun c6 => ?_)
    refine lv_aload_n hx hb dX1_keptAt_9 rfl (lv_at hl 0 rfl) ?_
    refine x_get F hI 7 (by decide) rfl flX1_45 dX1_keptAt_10 ?_
    refine lv_iload_n hx hb dX1_keptAt_13 rfl (lv_at hl 1 rfl) ?_
    refine x_rld F hI 2 (show i < 20 by omega) rfl dX1_keptAt_14 ?_
    refine lv_goto (tgt := 19) hx hb dX1_keptAt_15 (by decide) ?_
    exact kret_q (r := (st.2.1 2 i)) F hI dX1_keptAt_19 (⟨by rw [x_kat_n st hi], rfl⟩)
  · have h2 : decide (¬ x < 0 ∧ ¬ nI 20 ≤ x) = false := by simpa using h
    refine lv_iload_n hx hb dX1_keptAt_0 rfl (lv_at hl 1 rfl) ?_
    refine lv_bipush (v := nI 20) hx hb dX1_keptAt_1 (by decide) ?_
    refine kcallS (rest := []) F hA hI (xc_isBelow l _ _ _) kgX1_52 hl.1 rfl rfl (Nat.le_of_ble_eq_true rfl) dX1_keptAt_3 ⟨Nat.le_of_ble_eq_true rfl, Nat.le_of_ble_eq_true rfl⟩ ⟨Nat.le_of_ble_eq_true rfl, Nat.le_of_ble_eq_true rfl⟩ (fun vq uq H locs hp hI => ?_)
    obtain ⟨rfl, hu⟩ := hp
    rw [hu] at hI
    clear hu
    refine kstk (b := .int _ :: []) rfl ?_
    refine lv_if_eq (tgt := 18) hx hb dX1_keptAt_6 (by decide) (fun c6 => ?_) (fun c6 => absurd c6 ((fun q => q (bI_z.mpr h2))))
    refine lv_null hx hb dX1_keptAt_18 ?_
    exact kret_q (r := none) F hI dX1_keptAt_19 (⟨by rw [x_kat, if_neg h], rfl⟩)
theorem xc_kept_bad (st : XS) (x w : Int32) (h : x_kat st x = none ∨ decide (¬ w < 0 ∧ ¬ nI 7 ≤ w) = false) : kM l yX1_kept cX1_kept 4 (some .int) 2 42 0 0 D (xty K) (xw g K) [.ref (g 0), .int x, .int w] st (fun v u => v = some (.int (-1)) ∧ u = st) := by
  refine kM_intro (by decide) (Nat.le_of_ble_eq_true rfl) ?_
  intro p e s m below meth c A ls F hA hI hl
  obtain ⟨hx, hb, hr, hml, hown, hts, hlk, hK, hnm⟩ := id F
  have hl : lv_has ls 4 [(0, .ref (g 0)), (1, .int x), (2, .int w)] := hl
  rcases ho : x_kat st x with _ | a
  · have hl := hl
    refine lv_aload_n hx hb dX1_kept_0 rfl (lv_at hl 0 rfl) ?_
    refine lv_iload_n hx hb dX1_kept_1 rfl (lv_at hl 1 rfl) ?_
    refine kcallV (rest := []) F hA hI (xc_keptAt l _ _) kgX1_128 (x_rec F hI) hl.1 rfl rfl (Nat.le_of_ble_eq_true rfl) dX1_kept_2 ⟨Nat.le_of_ble_eq_true rfl, Nat.le_of_ble_eq_true rfl⟩ ⟨Nat.le_of_ble_eq_true rfl, Nat.le_of_ble_eq_true rfl⟩ (fun vq uq H locs hp hI => ?_)
    obtain ⟨rfl, hu⟩ := hp
    rw [hu] at hI
    clear hu
    refine kstk (b := .null :: []) (by rw [ho]; rfl) ?_
    refine lv_astore_nN (lv' := [(3, .null), (0, .ref _), (1, .int _), (2, .int _)]) hx hb dX1_kept_5 rfl hl (by decide) rfl (fun ls hl => ?_)
    refine lv_aload_nN hx hb dX1_kept_6 rfl (lv_at hl 0 rfl) ?_
    refine lv_ifnullN (tgt := 19) hx hb dX1_kept_7 (by decide) ?_
    refine lv_iconst (v := -1) hx hb dX1_kept_19 (by decide) ?_
    exact kret_i F hI dX1_kept_20 (⟨rfl, rfl⟩)
  · have h2 := h.resolve_left (by rw [ho]; exact fun q => by cases q)
    refine lv_aload_n hx hb dX1_kept_0 rfl (lv_at hl 0 rfl) ?_
    refine lv_iload_n hx hb dX1_kept_1 rfl (lv_at hl 1 rfl) ?_
    refine kcallV (rest := []) F hA hI (xc_keptAt l _ _) kgX1_128 (x_rec F hI) hl.1 rfl rfl (Nat.le_of_ble_eq_true rfl) dX1_kept_2 ⟨Nat.le_of_ble_eq_true rfl, Nat.le_of_ble_eq_true rfl⟩ ⟨Nat.le_of_ble_eq_true rfl, Nat.le_of_ble_eq_true rfl⟩ (fun vq uq H locs hp hI => ?_)
    obtain ⟨rfl, hu⟩ := hp
    rw [hu] at hI
    clear hu
    refine kstk (b := .ref a :: []) (by rw [ho]; rfl) ?_
    refine lv_astore_n (lv' := [(3, .ref _), (0, .ref _), (1, .int _), (2, .int _)]) hx hb dX1_kept_5 rfl hl (by decide) rfl (fun ls hl => ?_)
    refine lv_aload_n hx hb dX1_kept_6 rfl (lv_at hl 0 rfl) ?_
    refine lv_ifnull hx hb dX1_kept_7 ?_
    refine lv_iload_n hx hb dX1_kept_10 rfl (lv_at hl 3 rfl) ?_
    refine lv_bipush (v := nI 7) hx hb dX1_kept_11 (by decide) ?_
    refine kcallS (rest := []) F hA hI (xc_isBelow l _ _ _) kgX1_52 hl.1 rfl rfl (Nat.le_of_ble_eq_true rfl) dX1_kept_13 ⟨Nat.le_of_ble_eq_true rfl, Nat.le_of_ble_eq_true rfl⟩ ⟨Nat.le_of_ble_eq_true rfl, Nat.le_of_ble_eq_true rfl⟩ (fun vq uq H locs hp hI => ?_)
    obtain ⟨rfl, hu⟩ := hp
    rw [hu] at hI
    clear hu
    refine kstk (b := .int _ :: []) rfl ?_
    refine lv_if_ne (tgt := 21) hx hb dX1_kept_16 (by decide) (fun c16 => absurd c16 ((fun q => q (bI_z.mpr h2)))) (fun c16 => ?_)
    refine lv_iconst (v := -1) hx hb dX1_kept_19 (by decide) ?_
    exact kret_i F hI dX1_kept_20 (⟨rfl, rfl⟩)
theorem xc_kept (st : XS) (x : Int32) (a w : Nat) (ho : x_kat st x = some a) (ha : a ∈ st.2.2.2.1) (hw : w < 7) : kM l yX1_kept cX1_kept 4 (some .int) 2 42 0 0 D (xty K) (xw g K) [.ref (g 0), .int x, .int (nI w)] st (fun v u => v = some (.int (x_kval st a w)) ∧ u = st) := by
  refine kM_intro (by decide) (Nat.le_of_ble_eq_true rfl) ?_
  intro p e s m below meth c A ls F hA hI hl
  obtain ⟨hx, hb, hr, hml, hown, hts, hlk, hK, hnm⟩ := id F
  have hl : lv_has ls 4 [(0, .ref (g 0)), (1, .int x), (2, .int (nI w))] := hl
  have g2 := isB_t (show w < 7 by omega) (by decide)
  rcases (show w = 0 ∨ w = 1 ∨ w = 2 ∨ w = 3 ∨ w = 4 ∨ w = 5 ∨ w = 6 by omega) with rfl | rfl | rfl | rfl | rfl | rfl | rfl
  · have hl := hl
    refine lv_aload_n hx hb dX1_kept_0 rfl (lv_at hl 0 rfl) ?_
    refine lv_iload_n hx hb dX1_kept_1 rfl (lv_at hl 1 rfl) ?_
    refine kcallV (rest := []) F hA hI (xc_keptAt l _ _) kgX1_128 (x_rec F hI) hl.1 rfl rfl (Nat.le_of_ble_eq_true rfl) dX1_kept_2 ⟨Nat.le_of_ble_eq_true rfl, Nat.le_of_ble_eq_true rfl⟩ ⟨Nat.le_of_ble_eq_true rfl, Nat.le_of_ble_eq_true rfl⟩ (fun vq uq H locs hp hI => ?_)
    obtain ⟨rfl, hu⟩ := hp
    rw [hu] at hI
    clear hu
    refine kstk (b := .ref a :: []) (by rw [ho]; rfl) ?_
    refine lv_astore_n (lv' := [(3, .ref _), (0, .ref _), (1, .int _), (2, .int _)]) hx hb dX1_kept_5 rfl hl (by decide) rfl (fun ls hl => ?_)
    refine lv_aload_n hx hb dX1_kept_6 rfl (lv_at hl 0 rfl) ?_
    refine lv_ifnull hx hb dX1_kept_7 ?_
    refine lv_iload_n hx hb dX1_kept_10 rfl (lv_at hl 3 rfl) ?_
    refine lv_bipush (v := nI 7) hx hb dX1_kept_11 (by decide) ?_
    refine kcallS (rest := []) F hA hI (xc_isBelow l _ _ _) kgX1_52 hl.1 rfl rfl (Nat.le_of_ble_eq_true rfl) dX1_kept_13 ⟨Nat.le_of_ble_eq_true rfl, Nat.le_of_ble_eq_true rfl⟩ ⟨Nat.le_of_ble_eq_true rfl, Nat.le_of_ble_eq_true rfl⟩ (fun vq uq H locs hp hI => ?_)
    obtain ⟨rfl, hu⟩ := hp
    rw [hu] at hI
    clear hu
    refine kstk (b := .int _ :: []) rfl ?_
    refine lv_if_ne (tgt := 21) hx hb dX1_kept_16 (by decide) (fun c16 => ?_) (fun c16 => absurd c16 ((fun q => by rw [bI_z, g2] at q; cases q)))
    refine lv_iload_n hx hb dX1_kept_21 rfl (lv_at hl 3 rfl) ?_
    refine lv_tableIn (off := 38) (tgt := 60) hx hb dX1_kept_22 (by decide) (by decide) (by decide) (by decide) ?_
    refine lv_aload_n hx hb dX1_kept_60 rfl (lv_at hl 0 rfl) ?_
    refine x_cget F hI ha 0 (by decide) rfl flX1_131 dX1_kept_61 ?_
    exact kret_i F hI dX1_kept_64 (⟨by simp [x_kval], rfl⟩)
  · have hl := hl
    refine lv_aload_n hx hb dX1_kept_0 rfl (lv_at hl 0 rfl) ?_
    refine lv_iload_n hx hb dX1_kept_1 rfl (lv_at hl 1 rfl) ?_
    refine kcallV (rest := []) F hA hI (xc_keptAt l _ _) kgX1_128 (x_rec F hI) hl.1 rfl rfl (Nat.le_of_ble_eq_true rfl) dX1_kept_2 ⟨Nat.le_of_ble_eq_true rfl, Nat.le_of_ble_eq_true rfl⟩ ⟨Nat.le_of_ble_eq_true rfl, Nat.le_of_ble_eq_true rfl⟩ (fun vq uq H locs hp hI => ?_)
    obtain ⟨rfl, hu⟩ := hp
    rw [hu] at hI
    clear hu
    refine kstk (b := .ref a :: []) (by rw [ho]; rfl) ?_
    refine lv_astore_n (lv' := [(3, .ref _), (0, .ref _), (1, .int _), (2, .int _)]) hx hb dX1_kept_5 rfl hl (by decide) rfl (fun ls hl => ?_)
    refine lv_aload_n hx hb dX1_kept_6 rfl (lv_at hl 0 rfl) ?_
    refine lv_ifnull hx hb dX1_kept_7 ?_
    refine lv_iload_n hx hb dX1_kept_10 rfl (lv_at hl 3 rfl) ?_
    refine lv_bipush (v := nI 7) hx hb dX1_kept_11 (by decide) ?_
    refine kcallS (rest := []) F hA hI (xc_isBelow l _ _ _) kgX1_52 hl.1 rfl rfl (Nat.le_of_ble_eq_true rfl) dX1_kept_13 ⟨Nat.le_of_ble_eq_true rfl, Nat.le_of_ble_eq_true rfl⟩ ⟨Nat.le_of_ble_eq_true rfl, Nat.le_of_ble_eq_true rfl⟩ (fun vq uq H locs hp hI => ?_)
    obtain ⟨rfl, hu⟩ := hp
    rw [hu] at hI
    clear hu
    refine kstk (b := .int _ :: []) rfl ?_
    refine lv_if_ne (tgt := 21) hx hb dX1_kept_16 (by decide) (fun c16 => ?_) (fun c16 => absurd c16 ((fun q => by rw [bI_z, g2] at q; cases q)))
    refine lv_iload_n hx hb dX1_kept_21 rfl (lv_at hl 3 rfl) ?_
    refine lv_tableIn (off := 43) (tgt := 65) hx hb dX1_kept_22 (by decide) (by decide) (by decide) (by decide) ?_
    refine lv_aload_n hx hb dX1_kept_65 rfl (lv_at hl 0 rfl) ?_
    refine x_cget F hI ha 4 (by decide) rfl flX1_109 dX1_kept_66 ?_
    exact kret_i F hI dX1_kept_69 (⟨by simp [x_kval], rfl⟩)
  · have hl := hl
    refine lv_aload_n hx hb dX1_kept_0 rfl (lv_at hl 0 rfl) ?_
    refine lv_iload_n hx hb dX1_kept_1 rfl (lv_at hl 1 rfl) ?_
    refine kcallV (rest := []) F hA hI (xc_keptAt l _ _) kgX1_128 (x_rec F hI) hl.1 rfl rfl (Nat.le_of_ble_eq_true rfl) dX1_kept_2 ⟨Nat.le_of_ble_eq_true rfl, Nat.le_of_ble_eq_true rfl⟩ ⟨Nat.le_of_ble_eq_true rfl, Nat.le_of_ble_eq_true rfl⟩ (fun vq uq H locs hp hI => ?_)
    obtain ⟨rfl, hu⟩ := hp
    rw [hu] at hI
    clear hu
    refine kstk (b := .ref a :: []) (by rw [ho]; rfl) ?_
    refine lv_astore_n (lv' := [(3, .ref _), (0, .ref _), (1, .int _), (2, .int _)]) hx hb dX1_kept_5 rfl hl (by decide) rfl (fun ls hl => ?_)
    refine lv_aload_n hx hb dX1_kept_6 rfl (lv_at hl 0 rfl) ?_
    refine lv_ifnull hx hb dX1_kept_7 ?_
    refine lv_iload_n hx hb dX1_kept_10 rfl (lv_at hl 3 rfl) ?_
    refine lv_bipush (v := nI 7) hx hb dX1_kept_11 (by decide) ?_
    refine kcallS (rest := []) F hA hI (xc_isBelow l _ _ _) kgX1_52 hl.1 rfl rfl (Nat.le_of_ble_eq_true rfl) dX1_kept_13 ⟨Nat.le_of_ble_eq_true rfl, Nat.le_of_ble_eq_true rfl⟩ ⟨Nat.le_of_ble_eq_true rfl, Nat.le_of_ble_eq_true rfl⟩ (fun vq uq H locs hp hI => ?_)
    obtain ⟨rfl, hu⟩ := hp
    rw [hu] at hI
    clear hu
    refine kstk (b := .int _ :: []) rfl ?_
    refine lv_if_ne (tgt := 21) hx hb dX1_kept_16 (by decide) (fun c16 => ?_) (fun c16 => absurd c16 ((fun q => by rw [bI_z, g2] at q; cases q)))
    refine lv_iload_n hx hb dX1_kept_21 rfl (lv_at hl 3 rfl) ?_
    refine lv_tableIn (off := 48) (tgt := 70) hx hb dX1_kept_22 (by decide) (by decide) (by decide) (by decide) ?_
    refine lv_aload_n hx hb dX1_kept_70 rfl (lv_at hl 0 rfl) ?_
    refine x_cget F hI ha 1 (by decide) rfl flX1_112 dX1_kept_71 ?_
    exact kret_i F hI dX1_kept_74 (⟨by simp [x_kval], rfl⟩)
  · have hl := hl
    refine lv_aload_n hx hb dX1_kept_0 rfl (lv_at hl 0 rfl) ?_
    refine lv_iload_n hx hb dX1_kept_1 rfl (lv_at hl 1 rfl) ?_
    refine kcallV (rest := []) F hA hI (xc_keptAt l _ _) kgX1_128 (x_rec F hI) hl.1 rfl rfl (Nat.le_of_ble_eq_true rfl) dX1_kept_2 ⟨Nat.le_of_ble_eq_true rfl, Nat.le_of_ble_eq_true rfl⟩ ⟨Nat.le_of_ble_eq_true rfl, Nat.le_of_ble_eq_true rfl⟩ (fun vq uq H locs hp hI => ?_)
    obtain ⟨rfl, hu⟩ := hp
    rw [hu] at hI
    clear hu
    refine kstk (b := .ref a :: []) (by rw [ho]; rfl) ?_
    refine lv_astore_n (lv' := [(3, .ref _), (0, .ref _), (1, .int _), (2, .int _)]) hx hb dX1_kept_5 rfl hl (by decide) rfl (fun ls hl => ?_)
    refine lv_aload_n hx hb dX1_kept_6 rfl (lv_at hl 0 rfl) ?_
    refine lv_ifnull hx hb dX1_kept_7 ?_
    refine lv_iload_n hx hb dX1_kept_10 rfl (lv_at hl 3 rfl) ?_
    refine lv_bipush (v := nI 7) hx hb dX1_kept_11 (by decide) ?_
    refine kcallS (rest := []) F hA hI (xc_isBelow l _ _ _) kgX1_52 hl.1 rfl rfl (Nat.le_of_ble_eq_true rfl) dX1_kept_13 ⟨Nat.le_of_ble_eq_true rfl, Nat.le_of_ble_eq_true rfl⟩ ⟨Nat.le_of_ble_eq_true rfl, Nat.le_of_ble_eq_true rfl⟩ (fun vq uq H locs hp hI => ?_)
    obtain ⟨rfl, hu⟩ := hp
    rw [hu] at hI
    clear hu
    refine kstk (b := .int _ :: []) rfl ?_
    refine lv_if_ne (tgt := 21) hx hb dX1_kept_16 (by decide) (fun c16 => ?_) (fun c16 => absurd c16 ((fun q => by rw [bI_z, g2] at q; cases q)))
    refine lv_iload_n hx hb dX1_kept_21 rfl (lv_at hl 3 rfl) ?_
    refine lv_tableIn (off := 53) (tgt := 75) hx hb dX1_kept_22 (by decide) (by decide) (by decide) (by decide) ?_
    refine lv_aload_n hx hb dX1_kept_75 rfl (lv_at hl 0 rfl) ?_
    refine x_cget F hI ha 5 (by decide) rfl flX1_115 dX1_kept_76 ?_
    exact kret_i F hI dX1_kept_79 (⟨by simp [x_kval], rfl⟩)
  · have hl := hl
    refine lv_aload_n hx hb dX1_kept_0 rfl (lv_at hl 0 rfl) ?_
    refine lv_iload_n hx hb dX1_kept_1 rfl (lv_at hl 1 rfl) ?_
    refine kcallV (rest := []) F hA hI (xc_keptAt l _ _) kgX1_128 (x_rec F hI) hl.1 rfl rfl (Nat.le_of_ble_eq_true rfl) dX1_kept_2 ⟨Nat.le_of_ble_eq_true rfl, Nat.le_of_ble_eq_true rfl⟩ ⟨Nat.le_of_ble_eq_true rfl, Nat.le_of_ble_eq_true rfl⟩ (fun vq uq H locs hp hI => ?_)
    obtain ⟨rfl, hu⟩ := hp
    rw [hu] at hI
    clear hu
    refine kstk (b := .ref a :: []) (by rw [ho]; rfl) ?_
    refine lv_astore_n (lv' := [(3, .ref _), (0, .ref _), (1, .int _), (2, .int _)]) hx hb dX1_kept_5 rfl hl (by decide) rfl (fun ls hl => ?_)
    refine lv_aload_n hx hb dX1_kept_6 rfl (lv_at hl 0 rfl) ?_
    refine lv_ifnull hx hb dX1_kept_7 ?_
    refine lv_iload_n hx hb dX1_kept_10 rfl (lv_at hl 3 rfl) ?_
    refine lv_bipush (v := nI 7) hx hb dX1_kept_11 (by decide) ?_
    refine kcallS (rest := []) F hA hI (xc_isBelow l _ _ _) kgX1_52 hl.1 rfl rfl (Nat.le_of_ble_eq_true rfl) dX1_kept_13 ⟨Nat.le_of_ble_eq_true rfl, Nat.le_of_ble_eq_true rfl⟩ ⟨Nat.le_of_ble_eq_true rfl, Nat.le_of_ble_eq_true rfl⟩ (fun vq uq H locs hp hI => ?_)
    obtain ⟨rfl, hu⟩ := hp
    rw [hu] at hI
    clear hu
    refine kstk (b := .int _ :: []) rfl ?_
    refine lv_if_ne (tgt := 21) hx hb dX1_kept_16 (by decide) (fun c16 => ?_) (fun c16 => absurd c16 ((fun q => by rw [bI_z, g2] at q; cases q)))
    refine lv_iload_n hx hb dX1_kept_21 rfl (lv_at hl 3 rfl) ?_
    refine lv_tableIn (off := 58) (tgt := 80) hx hb dX1_kept_22 (by decide) (by decide) (by decide) (by decide) ?_
    refine lv_aload_n hx hb dX1_kept_80 rfl (lv_at hl 0 rfl) ?_
    refine x_cget F hI ha 8 (by decide) rfl flX1_134 dX1_kept_81 ?_
    exact kret_i F hI dX1_kept_84 (⟨by simp [x_kval], rfl⟩)
  · have hl := hl
    refine lv_aload_n hx hb dX1_kept_0 rfl (lv_at hl 0 rfl) ?_
    refine lv_iload_n hx hb dX1_kept_1 rfl (lv_at hl 1 rfl) ?_
    refine kcallV (rest := []) F hA hI (xc_keptAt l _ _) kgX1_128 (x_rec F hI) hl.1 rfl rfl (Nat.le_of_ble_eq_true rfl) dX1_kept_2 ⟨Nat.le_of_ble_eq_true rfl, Nat.le_of_ble_eq_true rfl⟩ ⟨Nat.le_of_ble_eq_true rfl, Nat.le_of_ble_eq_true rfl⟩ (fun vq uq H locs hp hI => ?_)
    obtain ⟨rfl, hu⟩ := hp
    rw [hu] at hI
    clear hu
    refine kstk (b := .ref a :: []) (by rw [ho]; rfl) ?_
    refine lv_astore_n (lv' := [(3, .ref _), (0, .ref _), (1, .int _), (2, .int _)]) hx hb dX1_kept_5 rfl hl (by decide) rfl (fun ls hl => ?_)
    refine lv_aload_n hx hb dX1_kept_6 rfl (lv_at hl 0 rfl) ?_
    refine lv_ifnull hx hb dX1_kept_7 ?_
    refine lv_iload_n hx hb dX1_kept_10 rfl (lv_at hl 3 rfl) ?_
    refine lv_bipush (v := nI 7) hx hb dX1_kept_11 (by decide) ?_
    refine kcallS (rest := []) F hA hI (xc_isBelow l _ _ _) kgX1_52 hl.1 rfl rfl (Nat.le_of_ble_eq_true rfl) dX1_kept_13 ⟨Nat.le_of_ble_eq_true rfl, Nat.le_of_ble_eq_true rfl⟩ ⟨Nat.le_of_ble_eq_true rfl, Nat.le_of_ble_eq_true rfl⟩ (fun vq uq H locs hp hI => ?_)
    obtain ⟨rfl, hu⟩ := hp
    rw [hu] at hI
    clear hu
    refine kstk (b := .int _ :: []) rfl ?_
    refine lv_if_ne (tgt := 21) hx hb dX1_kept_16 (by decide) (fun c16 => ?_) (fun c16 => absurd c16 ((fun q => by rw [bI_z, g2] at q; cases q)))
    refine lv_iload_n hx hb dX1_kept_21 rfl (lv_at hl 3 rfl) ?_
    refine lv_tableIn (off := 63) (tgt := 85) hx hb dX1_kept_22 (by decide) (by decide) (by decide) (by decide) ?_
    refine lv_aload_n hx hb dX1_kept_85 rfl (lv_at hl 0 rfl) ?_
    refine x_cget F hI ha 9 (by decide) rfl flX1_137 dX1_kept_86 ?_
    refine lv_if_eq (tgt := 96) hx hb dX1_kept_89 (by decide) (fun c89 => ?_) (fun c89 => ?_)
    ·
      refine lv_iconst (v := nI 0) hx hb dX1_kept_96 (by decide) ?_
      exact kret_i F hI dX1_kept_97 (⟨by simp [x_kval, c89], rfl⟩)
    ·
      refine lv_iconst (v := nI 1) hx hb dX1_kept_92 (by decide) ?_
      refine lv_goto (tgt := 97) hx hb dX1_kept_93 (by decide) ?_
      exact kret_i F hI dX1_kept_97 (⟨by simp [x_kval, c89], rfl⟩)
  · have hl := hl
    refine lv_aload_n hx hb dX1_kept_0 rfl (lv_at hl 0 rfl) ?_
    refine lv_iload_n hx hb dX1_kept_1 rfl (lv_at hl 1 rfl) ?_
    refine kcallV (rest := []) F hA hI (xc_keptAt l _ _) kgX1_128 (x_rec F hI) hl.1 rfl rfl (Nat.le_of_ble_eq_true rfl) dX1_kept_2 ⟨Nat.le_of_ble_eq_true rfl, Nat.le_of_ble_eq_true rfl⟩ ⟨Nat.le_of_ble_eq_true rfl, Nat.le_of_ble_eq_true rfl⟩ (fun vq uq H locs hp hI => ?_)
    obtain ⟨rfl, hu⟩ := hp
    rw [hu] at hI
    clear hu
    refine kstk (b := .ref a :: []) (by rw [ho]; rfl) ?_
    refine lv_astore_n (lv' := [(3, .ref _), (0, .ref _), (1, .int _), (2, .int _)]) hx hb dX1_kept_5 rfl hl (by decide) rfl (fun ls hl => ?_)
    refine lv_aload_n hx hb dX1_kept_6 rfl (lv_at hl 0 rfl) ?_
    refine lv_ifnull hx hb dX1_kept_7 ?_
    refine lv_iload_n hx hb dX1_kept_10 rfl (lv_at hl 3 rfl) ?_
    refine lv_bipush (v := nI 7) hx hb dX1_kept_11 (by decide) ?_
    refine kcallS (rest := []) F hA hI (xc_isBelow l _ _ _) kgX1_52 hl.1 rfl rfl (Nat.le_of_ble_eq_true rfl) dX1_kept_13 ⟨Nat.le_of_ble_eq_true rfl, Nat.le_of_ble_eq_true rfl⟩ ⟨Nat.le_of_ble_eq_true rfl, Nat.le_of_ble_eq_true rfl⟩ (fun vq uq H locs hp hI => ?_)
    obtain ⟨rfl, hu⟩ := hp
    rw [hu] at hI
    clear hu
    refine kstk (b := .int _ :: []) rfl ?_
    refine lv_if_ne (tgt := 21) hx hb dX1_kept_16 (by decide) (fun c16 => ?_) (fun c16 => absurd c16 ((fun q => by rw [bI_z, g2] at q; cases q)))
    refine lv_iload_n hx hb dX1_kept_21 rfl (lv_at hl 3 rfl) ?_
    refine lv_tableOut (tgt := 98) hx hb dX1_kept_22 (by decide) (by decide) ?_
    refine lv_aload_n hx hb dX1_kept_98 rfl (lv_at hl 0 rfl) ?_
    refine x_cget F hI ha 7 (by decide) rfl flX1_140 dX1_kept_99 ?_
    exact kret_i F hI dX1_kept_102 (⟨by simp [x_kval], rfl⟩)
theorem x_closeL_2 : ∀ (f k : Nat) (st : XS), k + f = 19 → (∀ i, i < 20 → ∀ a, st.2.1 2 i = some a → a ∈ st.2.2.2.1) → (x_closeL f k st).1 = st.1 ∧ (x_closeL f k st).2.2 = st.2.2 ∧ (x_closeL f k st).2.1 0 = st.2.1 0 ∧ (x_closeL f k st).2.1 1 = st.2.1 1 := by
  intro f
  induction f with
  | zero => intro k st _ _; exact ⟨rfl, rfl, rfl, rfl⟩
  | succ f ih =>
    intro k st hk h
    have h2 : ∀ i, i < 20 → ∀ a, (xrf st 2 k (st.2.1 2 (k + 1))).2.1 2 i = some a → a ∈ st.2.2.2.1 := by
      intro i hi a ha
      have e : (xrf st 2 k (st.2.1 2 (k + 1))).2.1 2 i = va_up (st.2.1 2) k (st.2.1 2 (k + 1)) i := rfl
      rw [e] at ha
      by_cases q : i = k
      · subst q; rw [va_up_self] at ha; exact h _ (by omega) a ha
      · rw [va_up_ne _ _ q] at ha; exact h i hi a ha
    exact ih (k + 1) _ (by omega) h2
theorem xc_close (st : XS) (i : Nat) (hi : i < 20) (h : ∀ i, i < 20 → ∀ a, st.2.1 2 i = some a → a ∈ st.2.2.2.1) : kM l yX1_closeRowAt cX1_closeRowAt 3 none 0 0 0 0 D (xty K) (xw g K) [.ref (g 0), .int (nI i)] st (fun v u => v = none ∧ u = x_close st i) := by
  refine kM_intro (by decide) (Nat.le_of_ble_eq_true rfl) ?_
  intro p e s m below meth c A ls F hA hI hl
  obtain ⟨hx, hb, hr, hml, hown, hts, hlk, hK, hnm⟩ := id F
  have hl : lv_has ls 3 [(0, .ref (g 0)), (1, .int (nI i))] := hl
  refine lv_iload_n hx hb dX1_closeRowAt_0 rfl (lv_at hl 1 rfl) ?_
  refine lv_istore_n (lv' := [(2, .int _), (0, .ref _), (1, .int _)]) hx hb dX1_closeRowAt_1 rfl hl (by decide) rfl (fun ls hl => ?_)
  refine wloop (σ := Nat × Nat × XS) (fun x => x.1) (fun x H locs ls => x.2.1 + x.1 = 19 ∧ x_closeL x.1 x.2.1 x.2.2 = x_closeL (19 - i) i st ∧ (∀ i, i < 20 → ∀ a, x.2.2.2.1 2 i = some a → a ∈ x.2.2.2.2.2.1) ∧ kI D (xw g K) A s.heap x.2.2 H locs ∧ lv_has ls 3 [(2, .int (nI x.2.1)), (0, .ref (g 0)), (1, .int (nI i))]) ?_ (19 - i, i, st) _ _ _ ⟨by show i + (19 - i) = 19; omega, rfl, h, hI, lv_sub hl [0, 1, 2] rfl⟩
  rintro ⟨f, k, u⟩ H locs ls ⟨hk, he, hok, hI, hl⟩ ih
  dsimp only at hk he hok hI hl ih
  refine lv_iload_n hx hb dX1_closeRowAt_2 rfl (lv_at hl 0 rfl) ?_
  refine lv_bipush (v := nI 19) hx hb dX1_closeRowAt_3 (by decide) ?_
  refine lv_icmp_ge (tgt := 28) hx hb dX1_closeRowAt_5 (by decide) (fun c5 => ?_) (fun c5 => ?_)
  ·
    rw [nI_leI (by omega) (by omega)] at c5
    obtain rfl : f = 0 := by omega
    have he : u = x_closeL (19 - i) i st := he
    refine lv_aload_n hx hb dX1_closeRowAt_28 rfl (lv_at hl 1 rfl) ?_
    refine x_get F hI 7 (by decide) rfl flX1_45 dX1_closeRowAt_29 ?_
    refine lv_bipush (v := nI 19) hx hb dX1_closeRowAt_32 (by decide) ?_
    refine lv_null hx hb dX1_closeRowAt_34 ?_
    refine x_rstN F hI 2 (show 19 < 20 by omega) rfl dX1_closeRowAt_35 (fun H locs hI => ?_)
    refine lv_aload_n hx hb dX1_closeRowAt_36 rfl (lv_at hl 1 rfl) ?_
    refine x_get F hI 2 (by decide) rfl flX1_25 dX1_closeRowAt_37 ?_
    refine lv_iconst (v := nI 2) hx hb dX1_closeRowAt_40 (by decide) ?_
    refine lv_dup2_11 hx hb dX1_closeRowAt_41 rfl rfl ?_
    refine x_ald F hI 2 (show 2 < 13 by omega) rfl dX1_closeRowAt_42 ?_
    refine lv_iconst (v := nI 1) hx hb dX1_closeRowAt_43 (by decide) ?_
    refine lv_isub hx hb dX1_closeRowAt_44 ?_
    refine x_ast F hI 2 (show 2 < 13 by omega) rfl dX1_closeRowAt_45 (fun H locs hI => ?_)
    exact kret_v F hI dX1_closeRowAt_46 (⟨rfl, by rw [x_close, ← he]; rfl⟩)
  ·
    rw [nI_leI (by omega) (by omega)] at c5
    obtain ⟨f, rfl⟩ : ∃ f', f = f' + 1 := ⟨f - 1, by omega⟩
    refine lv_aload_n hx hb dX1_closeRowAt_8 rfl (lv_at hl 1 rfl) ?_
    refine x_get F hI 7 (by decide) rfl flX1_45 dX1_closeRowAt_9 ?_
    refine lv_iload_n hx hb dX1_closeRowAt_12 rfl (lv_at hl 0 rfl) ?_
    refine lv_aload_n hx hb dX1_closeRowAt_13 rfl (lv_at hl 1 rfl) ?_
    refine x_get F hI 7 (by decide) rfl flX1_45 dX1_closeRowAt_14 ?_
    refine lv_iload_n hx hb dX1_closeRowAt_17 rfl (lv_at hl 0 rfl) ?_
    refine lv_iconst (v := nI 1) hx hb dX1_closeRowAt_18 (by decide) ?_
    refine lv_iadd hx hb dX1_closeRowAt_19 ?_
    refine ktop (y := nI (k + 1)) (nI_add _ _) ?_
    refine x_rld F hI 2 (show (k + 1) < 20 by omega) rfl dX1_closeRowAt_20 ?_
    refine x_rstQ F hI (fun a ha => hok (k + 1) (by omega) a ha) 2 (show k < 20 by omega) rfl dX1_closeRowAt_21 (fun H locs hI => ?_)
    have hI : kI D _ A s.heap (xrf u 2 k (u.2.1 2 (k + 1))) H locs := hI
    generalize hS21 : xrf u 2 k (u.2.1 2 (k + 1)) = S21 at hI
    refine lv_iinc (v := nI (k + 1)) (lv' := [(2, .int _), (0, .ref _), (1, .int _)]) hx hb dX1_closeRowAt_22 hl (k := 0) rfl (kinc _ 1) (by decide) rfl (fun ls hl => ?_)
    refine lv_goto (tgt := 2) hx hb dX1_closeRowAt_25 (by decide) ?_
    have hok2 : ∀ i, i < 20 → ∀ a, S21.2.1 2 i = some a → a ∈ S21.2.2.2.1 := by
      intro i hi a ha
      rw [← hS21] at ha ⊢
      have e : (xrf u 2 k (u.2.1 2 (k + 1))).2.1 2 i = va_up (u.2.1 2) k (u.2.1 2 (k + 1)) i := rfl
      rw [e] at ha
      by_cases q : i = k
      · subst q; rw [va_up_self] at ha; exact hok _ (by omega) a ha
      · rw [va_up_ne _ _ q] at ha; exact hok i hi a ha
    exact ih (f, k + 1, S21) _ _ _ (by show f < f + 1; omega) ⟨by show k + 1 + f = _; omega, by rw [← he, ← hS21]; rfl, hok2, hI, lv_sub hl [0, 1, 2] rfl⟩
theorem xc_take_bad (st : XS) (x : Int32) (ho : x_kat st x = none) : kM l yX1_take cX1_take 3 (some .int) 2 42 0 0 D (xty K) (xw g K) [.ref (g 0), .int x] st (fun v u => v = some (.int (-1)) ∧ u = st) := by
  refine kM_intro (by decide) (Nat.le_of_ble_eq_true rfl) ?_
  intro p e s m below meth c A ls F hA hI hl
  obtain ⟨hx, hb, hr, hml, hown, hts, hlk, hK, hnm⟩ := id F
  have hl : lv_has ls 3 [(0, .ref (g 0)), (1, .int x)] := hl
  refine lv_aload_n hx hb dX1_take_0 rfl (lv_at hl 0 rfl) ?_
  refine lv_iload_n hx hb dX1_take_1 rfl (lv_at hl 1 rfl) ?_
  refine kcallV (rest := []) F hA hI (xc_keptAt l _ _) kgX1_128 (x_rec F hI) hl.1 rfl rfl (Nat.le_of_ble_eq_true rfl) dX1_take_2 ⟨Nat.le_of_ble_eq_true rfl, Nat.le_of_ble_eq_true rfl⟩ ⟨Nat.le_of_ble_eq_true rfl, Nat.le_of_ble_eq_true rfl⟩ (fun vq uq H locs hp hI => ?_)
  obtain ⟨rfl, hu⟩ := hp
  rw [hu] at hI
  clear hu
  refine kstk (b := .null :: []) (by rw [ho]; rfl) ?_
  refine lv_astore_nN (lv' := [(2, .null), (0, .ref _), (1, .int _)]) hx hb dX1_take_5 rfl hl (by decide) rfl (fun ls hl => ?_)
  refine lv_aload_nN hx hb dX1_take_6 rfl (lv_at hl 0 rfl) ?_
  refine lv_ifnonnullN hx hb dX1_take_7 ?_
  refine lv_iconst (v := -1) hx hb dX1_take_10 (by decide) ?_
  exact kret_i F hI dX1_take_11 (⟨rfl, rfl⟩)
theorem xc_take (st : XS) (i a sh : Nat) (hi : i < 20) (hs : sh < 5) (ho : st.2.1 2 i = some a) (h1 : cf st a 1 = nI sh) (h : ∀ i, i < 20 → ∀ a, st.2.1 2 i = some a → a ∈ st.2.2.2.1) : kM l yX1_take cX1_take 3 (some .int) 2 42 0 0 D (xty K) (xw g K) [.ref (g 0), .int (nI i)] st (fun v u => v = some (.int (cf st a 0)) ∧ u = x_take st i a sh (cf st a 8)) := by
  refine kM_intro (by decide) (Nat.le_of_ble_eq_true rfl) ?_
  intro p e s m below meth c A ls F hA hI hl
  obtain ⟨hx, hb, hr, hml, hown, hts, hlk, hK, hnm⟩ := id F
  have hl : lv_has ls 3 [(0, .ref (g 0)), (1, .int (nI i))] := hl
  have ha := h i hi a ho
  have ho2 : x_kat st (nI i) = some a := by rw [x_kat_n st hi]; exact ho
  have hc := x_closeL_2 (19 - i) i st (by omega) h
  refine lv_aload_n hx hb dX1_take_0 rfl (lv_at hl 0 rfl) ?_
  refine lv_iload_n hx hb dX1_take_1 rfl (lv_at hl 1 rfl) ?_
  refine kcallV (rest := []) F hA hI (xc_keptAt l _ _) kgX1_128 (x_rec F hI) hl.1 rfl rfl (Nat.le_of_ble_eq_true rfl) dX1_take_2 ⟨Nat.le_of_ble_eq_true rfl, Nat.le_of_ble_eq_true rfl⟩ ⟨Nat.le_of_ble_eq_true rfl, Nat.le_of_ble_eq_true rfl⟩ (fun vq uq H locs hp hI => ?_)
  obtain ⟨rfl, hu⟩ := hp
  rw [hu] at hI
  clear hu
  refine kstk (b := .ref a :: []) (by rw [ho2]; rfl) ?_
  refine lv_astore_n (lv' := [(2, .ref _), (0, .ref _), (1, .int _)]) hx hb dX1_take_5 rfl hl (by decide) rfl (fun ls hl => ?_)
  refine lv_aload_n hx hb dX1_take_6 rfl (lv_at hl 0 rfl) ?_
  refine lv_ifnonnull (tgt := 12) hx hb dX1_take_7 (by decide) ?_
  refine lv_aload_n hx hb dX1_take_12 rfl (lv_at hl 1 rfl) ?_
  refine lv_iload_n hx hb dX1_take_13 rfl (lv_at hl 2 rfl) ?_
  refine kcallV (rest := []) F hA hI (xc_close l _ i hi h) kgX1_143 (x_rec F hI) hl.1 rfl rfl (Nat.le_of_ble_eq_true rfl) dX1_take_14 ⟨Nat.le_of_ble_eq_true rfl, Nat.le_of_ble_eq_true rfl⟩ ⟨Nat.le_of_ble_eq_true rfl, Nat.le_of_ble_eq_true rfl⟩ (fun vq uq H locs hp hI => ?_)
  obtain ⟨rfl, hu⟩ := hp
  rw [hu] at hI
  clear hu
  refine kstk (b := []) rfl ?_
  have hI : kI D _ A s.heap (x_close st i) H locs := hI
  generalize hS14 : x_close st i = S14 at hI
  have e4 : S14.2.2 = st.2.2 := by rw [← hS14]; exact hc.2.1
  have ha4 : a ∈ S14.2.2.2.1 := by rw [e4]; exact ha
  refine lv_aload_n hx hb dX1_take_17 rfl (lv_at hl 0 rfl) ?_
  refine lv_iconst (v := nI 0) hx hb dX1_take_18 (by decide) ?_
  refine x_cput (ty := .boolean) F hI ha4 10 (by decide) rfl flX1_124 (by decide +kernel) rfl rfl rfl dX1_take_19 (fun H locs hI => ?_)
  have hI : kI D _ A s.heap (xc S14 a 10 (nI 0)) H locs := hI
  generalize hS19 : xc S14 a 10 (nI 0) = S19 at hI
  have ha9 : a ∈ S19.2.2.2.1 := by rw [← hS19]; exact ha4
  refine lv_aload_n hx hb dX1_take_22 rfl (lv_at hl 0 rfl) ?_
  refine lv_iconst (v := nI 1) hx hb dX1_take_23 (by decide) ?_
  refine x_cput (ty := .boolean) F hI ha9 11 (by decide) rfl flX1_146 (by decide +kernel) rfl rfl rfl dX1_take_24 (fun H locs hI => ?_)
  have hI : kI D _ A s.heap (xc S19 a 11 (nI 1)) H locs := hI
  generalize hS24 : xc S19 a 11 (nI 1) = S24 at hI
  have ha5 : a ∈ S24.2.2.2.1 := by rw [← hS24]; exact ha9
  have f0 : cf S24 a 0 = cf st a 0 := by rw [← hS24, cf_ne (by decide), ← hS19, cf_ne (by decide)]; unfold cf; rw [e4]
  have f1 : cf S24 a 1 = nI sh := by rw [← hS24, cf_ne (by decide), ← hS19, cf_ne (by decide), ← h1]; unfold cf; rw [e4]
  have f8 : cf S24 a 8 = cf st a 8 := by rw [← hS24, cf_ne (by decide), ← hS19, cf_ne (by decide)]; unfold cf; rw [e4]
  refine lv_aload_n hx hb dX1_take_27 rfl (lv_at hl 1 rfl) ?_
  refine x_get F hI 3 (by decide) rfl flX1_30 dX1_take_28 ?_
  refine lv_aload_n hx hb dX1_take_31 rfl (lv_at hl 0 rfl) ?_
  refine x_cget F hI ha5 1 (by decide) rfl flX1_112 dX1_take_32 ?_
  refine ktop (y := nI (sh)) (by exact f1) ?_
  refine x_tal F hI (s' := (sh)) (by omega) rfl dX1_take_35 ?_
  refine lv_iconst (v := nI 1) hx hb dX1_take_36 (by decide) ?_
  refine lv_dup2_11 hx hb dX1_take_37 rfl rfl ?_
  refine x_tald F hI (s' := (sh)) (by omega) (show 1 < 7 by omega) rfl dX1_take_38 ?_
  refine lv_aload_n hx hb dX1_take_39 rfl (lv_at hl 0 rfl) ?_
  refine x_cget F hI ha5 8 (by decide) rfl flX1_134 dX1_take_40 ?_
  refine ktop (y := cf st a 8) (by exact f8) ?_
  refine lv_isub hx hb dX1_take_43 ?_
  refine x_tast F hI (s' := (sh)) (by omega) (show 1 < 7 by omega) rfl dX1_take_44 (fun H locs hI => ?_)
  have hI : kI D _ A s.heap (xsub S24 (4 + sh) 1 (cf st a 8)) H locs := hI
  generalize hS44 : xsub S24 (4 + sh) 1 (cf st a 8) = S44 at hI
  have ha6 : a ∈ S44.2.2.2.1 := by rw [← hS44]; exact ha5
  refine lv_aload_n hx hb dX1_take_45 rfl (lv_at hl 1 rfl) ?_
  refine x_get F hI 3 (by decide) rfl flX1_30 dX1_take_46 ?_
  refine lv_aload_n hx hb dX1_take_49 rfl (lv_at hl 0 rfl) ?_
  refine x_cget F hI ha6 1 (by decide) rfl flX1_112 dX1_take_50 ?_
  refine ktop (y := nI (sh)) (by rw [← hS44]; exact f1) ?_
  refine x_tal F hI (s' := (sh)) (by omega) rfl dX1_take_53 ?_
  refine lv_iconst (v := nI 2) hx hb dX1_take_54 (by decide) ?_
  refine lv_dup2_11 hx hb dX1_take_55 rfl rfl ?_
  refine x_tald F hI (s' := (sh)) (by omega) (show 2 < 7 by omega) rfl dX1_take_56 ?_
  refine lv_aload_n hx hb dX1_take_57 rfl (lv_at hl 0 rfl) ?_
  refine x_cget F hI ha6 8 (by decide) rfl flX1_134 dX1_take_58 ?_
  refine ktop (y := cf st a 8) (by rw [← hS44]; exact f8) ?_
  refine lv_iadd hx hb dX1_take_61 ?_
  refine x_tast F hI (s' := (sh)) (by omega) (show 2 < 7 by omega) rfl dX1_take_62 (fun H locs hI => ?_)
  have hI : kI D _ A s.heap (xadd S44 (4 + sh) 2 (cf st a 8)) H locs := hI
  generalize hS62 : xadd S44 (4 + sh) 2 (cf st a 8) = S62 at hI
  refine lv_aload_n hx hb dX1_take_63 rfl (lv_at hl 0 rfl) ?_
  refine x_cget F hI (show a ∈ S62.2.2.2.1 by rw [← hS62]; exact ha6) 0 (by decide) rfl flX1_131 dX1_take_64 ?_
  refine ktop (y := cf st a 0) (by rw [← hS62, ← hS44]; exact f0) ?_
  exact kret_i F hI dX1_take_67 (⟨rfl, by rw [x_take, hS14, hS19, hS24, hS44, hS62]⟩)
theorem xc_shape_bad (st : XS) (x w : Int32) (h : decide (¬ x < 0 ∧ ¬ nI 5 ≤ x) = false ∨ decide (¬ w < 0 ∧ ¬ nI 7 ≤ w) = false) : kM l yX1_shape cX1_shape 3 (some .int) 1 21 0 0 D (xty K) (xw g K) [.ref (g 0), .int x, .int w] st (fun v u => v = some (.int (-1)) ∧ u = st) := by
  refine kM_intro (by decide) (Nat.le_of_ble_eq_true rfl) ?_
  intro p e s m below meth c A ls F hA hI hl
  obtain ⟨hx, hb, hr, hml, hown, hts, hlk, hK, hnm⟩ := id F
  have hl : lv_has ls 3 [(0, .ref (g 0)), (1, .int x), (2, .int w)] := hl
  refine lv_iload_n hx hb dX1_shape_0 rfl (lv_at hl 1 rfl) ?_
  refine lv_iconst (v := nI 5) hx hb dX1_shape_1 (by decide) ?_
  refine kcallS (rest := []) F hA hI (xc_isBelow l _ _ _) kgX1_52 hl.1 rfl rfl (Nat.le_of_ble_eq_true rfl) dX1_shape_2 ⟨Nat.le_of_ble_eq_true rfl, Nat.le_of_ble_eq_true rfl⟩ ⟨Nat.le_of_ble_eq_true rfl, Nat.le_of_ble_eq_true rfl⟩ (fun vq uq H locs hp hI => ?_)
  obtain ⟨rfl, hu⟩ := hp
  rw [hu] at hI
  clear hu
  refine kstk (b := .int _ :: []) rfl ?_
  refine lv_if_eq (tgt := 28) hx hb dX1_shape_5 (by decide) (fun c5 => ?_) (fun c5 => ?_)
  ·
    rw [bI_z] at c5
    refine lv_iconst (v := -1) hx hb dX1_shape_28 (by decide) ?_
    exact kret_i F hI dX1_shape_29 (⟨rfl, rfl⟩)
  ·
    rw [bI_z] at c5
    refine lv_iload_n hx hb dX1_shape_8 rfl (lv_at hl 2 rfl) ?_
    refine lv_bipush (v := nI 7) hx hb dX1_shape_9 (by decide) ?_
    refine kcallS (rest := []) F hA hI (xc_isBelow l _ _ _) kgX1_52 hl.1 rfl rfl (Nat.le_of_ble_eq_true rfl) dX1_shape_11 ⟨Nat.le_of_ble_eq_true rfl, Nat.le_of_ble_eq_true rfl⟩ ⟨Nat.le_of_ble_eq_true rfl, Nat.le_of_ble_eq_true rfl⟩ (fun vq uq H locs hp hI => ?_)
    obtain ⟨rfl, hu⟩ := hp
    rw [hu] at hI
    clear hu
    refine kstk (b := .int _ :: []) rfl ?_
    refine lv_if_eq (tgt := 28) hx hb dX1_shape_14 (by decide) (fun c14 => ?_) (fun c14 => absurd c14 ((fun q => q (bI_z.mpr (h.resolve_left c5)))))
    refine lv_iconst (v := -1) hx hb dX1_shape_28 (by decide) ?_
    exact kret_i F hI dX1_shape_29 (⟨rfl, rfl⟩)
theorem xc_shape (st : XS) (i w : Nat) (hi : i < 5) (hw : w < 7) : kM l yX1_shape cX1_shape 3 (some .int) 1 21 0 0 D (xty K) (xw g K) [.ref (g 0), .int (nI i), .int (nI w)] st (fun v u => v = some (.int (st.1 (4 + i) w)) ∧ u = st) := by
  refine kM_intro (by decide) (Nat.le_of_ble_eq_true rfl) ?_
  intro p e s m below meth c A ls F hA hI hl
  obtain ⟨hx, hb, hr, hml, hown, hts, hlk, hK, hnm⟩ := id F
  have hl : lv_has ls 3 [(0, .ref (g 0)), (1, .int (nI i)), (2, .int (nI w))] := hl
  have g1 := isB_t (show i < 5 by omega) (by decide)
  have g2 := isB_t (show w < 7 by omega) (by decide)
  refine lv_iload_n hx hb dX1_shape_0 rfl (lv_at hl 1 rfl) ?_
  refine lv_iconst (v := nI 5) hx hb dX1_shape_1 (by decide) ?_
  refine kcallS (rest := []) F hA hI (xc_isBelow l _ _ _) kgX1_52 hl.1 rfl rfl (Nat.le_of_ble_eq_true rfl) dX1_shape_2 ⟨Nat.le_of_ble_eq_true rfl, Nat.le_of_ble_eq_true rfl⟩ ⟨Nat.le_of_ble_eq_true rfl, Nat.le_of_ble_eq_true rfl⟩ (fun vq uq H locs hp hI => ?_)
  obtain ⟨rfl, hu⟩ := hp
  rw [hu] at hI
  clear hu
  refine kstk (b := .int _ :: []) rfl ?_
  refine lv_if_eq (tgt := 28) hx hb dX1_shape_5 (by decide) (fun c5 => absurd c5 ((fun q => by rw [bI_z, g1] at q; cases q))) (fun c5 => ?_)
  refine lv_iload_n hx hb dX1_shape_8 rfl (lv_at hl 2 rfl) ?_
  refine lv_bipush (v := nI 7) hx hb dX1_shape_9 (by decide) ?_
  refine kcallS (rest := []) F hA hI (xc_isBelow l _ _ _) kgX1_52 hl.1 rfl rfl (Nat.le_of_ble_eq_true rfl) dX1_shape_11 ⟨Nat.le_of_ble_eq_true rfl, Nat.le_of_ble_eq_true rfl⟩ ⟨Nat.le_of_ble_eq_true rfl, Nat.le_of_ble_eq_true rfl⟩ (fun vq uq H locs hp hI => ?_)
  obtain ⟨rfl, hu⟩ := hp
  rw [hu] at hI
  clear hu
  refine kstk (b := .int _ :: []) rfl ?_
  refine lv_if_eq (tgt := 28) hx hb dX1_shape_14 (by decide) (fun c14 => absurd c14 ((fun q => by rw [bI_z, g2] at q; cases q))) (fun c14 => ?_)
  refine lv_aload_n hx hb dX1_shape_17 rfl (lv_at hl 0 rfl) ?_
  refine x_get F hI 3 (by decide) rfl flX1_30 dX1_shape_18 ?_
  refine lv_iload_n hx hb dX1_shape_21 rfl (lv_at hl 1 rfl) ?_
  refine x_tal F hI (s' := i) (by omega) rfl dX1_shape_22 ?_
  refine lv_iload_n hx hb dX1_shape_23 rfl (lv_at hl 2 rfl) ?_
  refine x_tald F hI (s' := i) (by omega) (show w < 7 by omega) rfl dX1_shape_24 ?_
  refine lv_goto (tgt := 29) hx hb dX1_shape_25 (by decide) ?_
  exact kret_i F hI dX1_shape_29 (⟨rfl, rfl⟩)
theorem xc_step_bad (st : XS) (x : Int32) (h : decide (¬ x < 0 ∧ ¬ nI 14 ≤ x) = false) : kM l yX1_step cX1_step 2 (some .int) 1 21 0 0 D (xty K) (xw g K) [.ref (g 0), .int x] st (fun v u => v = some (.int (-1)) ∧ u = st) := by
  refine kM_intro (by decide) (Nat.le_of_ble_eq_true rfl) ?_
  intro p e s m below meth c A ls F hA hI hl
  obtain ⟨hx, hb, hr, hml, hown, hts, hlk, hK, hnm⟩ := id F
  have hl : lv_has ls 2 [(0, .ref (g 0)), (1, .int x)] := hl
  refine lv_iload_n hx hb dX1_step_0 rfl (lv_at hl 1 rfl) ?_
  refine lv_bipush (v := nI 14) hx hb dX1_step_1 (by decide) ?_
  refine kcallS (rest := []) F hA hI (xc_isBelow l _ _ _) kgX1_52 hl.1 rfl rfl (Nat.le_of_ble_eq_true rfl) dX1_step_3 ⟨Nat.le_of_ble_eq_true rfl, Nat.le_of_ble_eq_true rfl⟩ ⟨Nat.le_of_ble_eq_true rfl, Nat.le_of_ble_eq_true rfl⟩ (fun vq uq H locs hp hI => ?_)
  obtain ⟨rfl, hu⟩ := hp
  rw [hu] at hI
  clear hu
  refine kstk (b := .int _ :: []) rfl ?_
  refine lv_if_eq (tgt := 18) hx hb dX1_step_6 (by decide) (fun c6 => ?_) (fun c6 => absurd c6 ((fun q => q (bI_z.mpr h))))
  refine lv_iconst (v := -1) hx hb dX1_step_18 (by decide) ?_
  exact kret_i F hI dX1_step_19 (⟨rfl, rfl⟩)
theorem xc_step (st : XS) (j : Nat) (hj : j < 14) : kM l yX1_step cX1_step 2 (some .int) 1 21 0 0 D (xty K) (xw g K) [.ref (g 0), .int (nI j)] st (fun v u => v = some (.int (st.1 3 j)) ∧ u = st) := by
  refine kM_intro (by decide) (Nat.le_of_ble_eq_true rfl) ?_
  intro p e s m below meth c A ls F hA hI hl
  obtain ⟨hx, hb, hr, hml, hown, hts, hlk, hK, hnm⟩ := id F
  have hl : lv_has ls 2 [(0, .ref (g 0)), (1, .int (nI j))] := hl
  have g1 := isB_t (show j < 14 by omega) (by decide)
  refine lv_iload_n hx hb dX1_step_0 rfl (lv_at hl 1 rfl) ?_
  refine lv_bipush (v := nI 14) hx hb dX1_step_1 (by decide) ?_
  refine kcallS (rest := []) F hA hI (xc_isBelow l _ _ _) kgX1_52 hl.1 rfl rfl (Nat.le_of_ble_eq_true rfl) dX1_step_3 ⟨Nat.le_of_ble_eq_true rfl, Nat.le_of_ble_eq_true rfl⟩ ⟨Nat.le_of_ble_eq_true rfl, Nat.le_of_ble_eq_true rfl⟩ (fun vq uq H locs hp hI => ?_)
  obtain ⟨rfl, hu⟩ := hp
  rw [hu] at hI
  clear hu
  refine kstk (b := .int _ :: []) rfl ?_
  refine lv_if_eq (tgt := 18) hx hb dX1_step_6 (by decide) (fun c6 => absurd c6 ((fun q => by rw [bI_z, g1] at q; cases q))) (fun c6 => ?_)
  refine lv_aload_n hx hb dX1_step_9 rfl (lv_at hl 0 rfl) ?_
  refine x_get F hI 4 (by decide) rfl flX1_33 dX1_step_10 ?_
  refine lv_iload_n hx hb dX1_step_13 rfl (lv_at hl 1 rfl) ?_
  refine x_ald F hI 3 (show j < 14 by omega) rfl dX1_step_14 ?_
  refine lv_goto (tgt := 19) hx hb dX1_step_15 (by decide) ?_
  exact kret_i F hI dX1_step_19 (⟨rfl, rfl⟩)
theorem xc_count_bad (st : XS) (x : Int32) (h : decide (¬ x < 0 ∧ ¬ nI 13 ≤ x) = false) : kM l yX1_count cX1_count 2 (some .int) 1 21 0 0 D (xty K) (xw g K) [.ref (g 0), .int x] st (fun v u => v = some (.int (-1)) ∧ u = st) := by
  refine kM_intro (by decide) (Nat.le_of_ble_eq_true rfl) ?_
  intro p e s m below meth c A ls F hA hI hl
  obtain ⟨hx, hb, hr, hml, hown, hts, hlk, hK, hnm⟩ := id F
  have hl : lv_has ls 2 [(0, .ref (g 0)), (1, .int x)] := hl
  refine lv_iload_n hx hb dX1_count_0 rfl (lv_at hl 1 rfl) ?_
  refine lv_bipush (v := nI 13) hx hb dX1_count_1 (by decide) ?_
  refine kcallS (rest := []) F hA hI (xc_isBelow l _ _ _) kgX1_52 hl.1 rfl rfl (Nat.le_of_ble_eq_true rfl) dX1_count_3 ⟨Nat.le_of_ble_eq_true rfl, Nat.le_of_ble_eq_true rfl⟩ ⟨Nat.le_of_ble_eq_true rfl, Nat.le_of_ble_eq_true rfl⟩ (fun vq uq H locs hp hI => ?_)
  obtain ⟨rfl, hu⟩ := hp
  rw [hu] at hI
  clear hu
  refine kstk (b := .int _ :: []) rfl ?_
  refine lv_if_eq (tgt := 18) hx hb dX1_count_6 (by decide) (fun c6 => ?_) (fun c6 => absurd c6 ((fun q => q (bI_z.mpr h))))
  refine lv_iconst (v := -1) hx hb dX1_count_18 (by decide) ?_
  exact kret_i F hI dX1_count_19 (⟨rfl, rfl⟩)
theorem xc_count (st : XS) (w : Nat) (hw : w < 13) : kM l yX1_count cX1_count 2 (some .int) 1 21 0 0 D (xty K) (xw g K) [.ref (g 0), .int (nI w)] st (fun v u => v = some (.int (st.1 2 w)) ∧ u = st) := by
  refine kM_intro (by decide) (Nat.le_of_ble_eq_true rfl) ?_
  intro p e s m below meth c A ls F hA hI hl
  obtain ⟨hx, hb, hr, hml, hown, hts, hlk, hK, hnm⟩ := id F
  have hl : lv_has ls 2 [(0, .ref (g 0)), (1, .int (nI w))] := hl
  have g1 := isB_t (show w < 13 by omega) (by decide)
  refine lv_iload_n hx hb dX1_count_0 rfl (lv_at hl 1 rfl) ?_
  refine lv_bipush (v := nI 13) hx hb dX1_count_1 (by decide) ?_
  refine kcallS (rest := []) F hA hI (xc_isBelow l _ _ _) kgX1_52 hl.1 rfl rfl (Nat.le_of_ble_eq_true rfl) dX1_count_3 ⟨Nat.le_of_ble_eq_true rfl, Nat.le_of_ble_eq_true rfl⟩ ⟨Nat.le_of_ble_eq_true rfl, Nat.le_of_ble_eq_true rfl⟩ (fun vq uq H locs hp hI => ?_)
  obtain ⟨rfl, hu⟩ := hp
  rw [hu] at hI
  clear hu
  refine kstk (b := .int _ :: []) rfl ?_
  refine lv_if_eq (tgt := 18) hx hb dX1_count_6 (by decide) (fun c6 => absurd c6 ((fun q => by rw [bI_z, g1] at q; cases q))) (fun c6 => ?_)
  refine lv_aload_n hx hb dX1_count_9 rfl (lv_at hl 0 rfl) ?_
  refine x_get F hI 2 (by decide) rfl flX1_25 dX1_count_10 ?_
  refine lv_iload_n hx hb dX1_count_13 rfl (lv_at hl 1 rfl) ?_
  refine x_ald F hI 2 (show w < 13 by omega) rfl dX1_count_14 ?_
  refine lv_goto (tgt := 19) hx hb dX1_count_15 (by decide) ?_
  exact kret_i F hI dX1_count_19 (⟨rfl, rfl⟩)
theorem xc_trace (st : XS) : kM l yX1_trace cX1_trace 1 (some .long) 0 0 0 0 D (xty K) (xw g K) [.ref (g 0)] st (fun v u => v = some (.long st.2.2.1) ∧ u = st) := by
  refine kM_intro (by decide) (Nat.le_of_ble_eq_true rfl) ?_
  intro p e s m below meth c A ls F hA hI hl
  obtain ⟨hx, hb, hr, hml, hown, hts, hlk, hK, hnm⟩ := id F
  have hl : lv_has ls 1 [(0, .ref (g 0))] := hl
  refine lv_aload_n hx hb dX1_trace_0 rfl (lv_at hl 0 rfl) ?_
  refine x_get F hI 8 (by decide) rfl flX1_48 dX1_trace_1 ?_
  exact kret_l F hI dX1_trace_4 (⟨rfl, rfl⟩)
theorem xc_share (st : XS) (a b : Nat) (sN : Nat → Nat) (T : Nat) (hb2 : b ≤ 1000) (ha : a ≤ b) (hT : T < 2 ^ 22) (hS : sumN sN 14 = T) (h12 : ∀ j, j < 14 → st.1 3 j = nI (sN j)) (h10 : st.1 2 10 = nI T) : kM l yX1_stepOfShare cX1_stepOfShare 8 (some .int) 0 0 0 0 D (xty K) (xw g K) [.ref (g 0), .int (nI a), .int (nI b)] st (fun v u => v = some (.int (nI (bnd sN T a b))) ∧ u = st) := by
  refine kM_intro (by decide) (Nat.le_of_ble_eq_true rfl) ?_
  intro p e s m below meth c A ls F hA hI hl
  obtain ⟨hx, hb, hr, hml, hown, hts, hlk, hK, hnm⟩ := id F
  have hl : lv_has ls 8 [(0, .ref (g 0)), (1, .int (nI a)), (2, .int (nI b))] := hl
  have haT : a * T < 2 ^ 63 := Nat.lt_of_le_of_lt (Nat.mul_le_mul (show a ≤ 1000 by omega) (Nat.le_of_lt hT)) (by decide)
  refine lv_iload_n hx hb dX1_stepOfShare_0 rfl (lv_at hl 1 rfl) ?_
  refine lv_i2l hx hb dX1_stepOfShare_1 rfl ?_
  refine ktopl (y := lN (a)) (by exact nI_l (by omega)) ?_
  refine lv_aload_n hx hb dX1_stepOfShare_2 rfl (lv_at hl 0 rfl) ?_
  refine x_get F hI 2 (by decide) rfl flX1_25 dX1_stepOfShare_3 ?_
  refine lv_bipush (v := nI 10) hx hb dX1_stepOfShare_6 (by decide) ?_
  refine x_ald F hI 2 (show 10 < 13 by omega) rfl dX1_stepOfShare_8 ?_
  refine ktop (y := nI (T)) (by exact h10) ?_
  refine lv_i2l hx hb dX1_stepOfShare_9 rfl ?_
  refine ktopl (y := lN (T)) (by exact nI_l (by omega)) ?_
  refine lv_lmul hx hb dX1_stepOfShare_10 ?_
  refine ktopl (y := lN (a * T)) (by exact lN_mul _ _) ?_
  refine lv_lstore_n (lv' := [(3, .long _), (0, .ref _), (1, .int _), (2, .int _)]) hx hb dX1_stepOfShare_11 rfl hl (by decide) rfl (fun ls hl => ?_)
  refine lv_aload_n hx hb dX1_stepOfShare_12 rfl (lv_at hl 1 rfl) ?_
  refine x_get F hI 4 (by decide) rfl flX1_33 dX1_stepOfShare_13 ?_
  refine lv_iconst (v := nI 0) hx hb dX1_stepOfShare_16 (by decide) ?_
  refine x_ald F hI 3 (show 0 < 14 by omega) rfl dX1_stepOfShare_17 ?_
  refine ktop (y := nI (sN 0)) (by exact h12 0 (by decide)) ?_
  refine lv_i2l hx hb dX1_stepOfShare_18 rfl ?_
  refine ktopl (y := lN (sumN sN (0 + 1))) (by rw [nI_l (show sN 0 < 2 ^ 31 by have := sumN_le sN (show 1 ≤ 14 by decide); have e : sumN sN 1 = 0 + sN 0 := rfl; omega)]; exact congrArg lN (Nat.zero_add _).symm) ?_
  refine lv_lstore (lv' := [(5, .long _), (3, .long _), (0, .ref _), (1, .int _), (2, .int _)]) hx hb dX1_stepOfShare_19 hl (by decide) rfl (fun ls hl => ?_)
  refine lv_iconst (v := nI 0) hx hb dX1_stepOfShare_21 (by decide) ?_
  refine lv_istore (lv' := [(7, .int _), (5, .long _), (3, .long _), (0, .ref _), (1, .int _), (2, .int _)]) hx hb dX1_stepOfShare_22 hl (by decide) rfl (fun ls hl => ?_)
  refine wloop (σ := Nat × Nat) (fun x => x.1) (fun x H locs ls => x.2 + x.1 = 13 ∧ bndL sN T a b x.1 x.2 = bnd sN T a b ∧ kI D (xw g K) A s.heap st H locs ∧ lv_has ls 8 [(7, .int (nI x.2)), (5, .long (lN (sumN sN (x.2 + 1)))), (3, .long (lN (a * T))), (0, .ref (g 0)), (1, .int (nI a)), (2, .int (nI b))]) ?_ (13, 0) _ _ _ ⟨rfl, rfl, hI, lv_sub hl [0, 1, 2, 3, 4, 5] rfl⟩
  rintro ⟨f, j⟩ H locs ls ⟨hk, he, hI, hl⟩ ih
  dsimp only at hk he hI hl ih
  have hle := sumN_le sN (show j + 1 ≤ 14 by omega)
  have hsb : sumN sN (j + 1) * b < 2 ^ 63 := Nat.lt_of_le_of_lt (Nat.mul_le_mul (show sumN sN (j + 1) ≤ 2 ^ 22 by omega) hb2) (by decide)
  refine lv_iload hx hb dX1_stepOfShare_24 (lv_at hl 0 rfl) ?_
  refine lv_bipush (v := nI 13) hx hb dX1_stepOfShare_26 (by decide) ?_
  refine lv_icmp_ge (tgt := 60) hx hb dX1_stepOfShare_28 (by decide) (fun c28 => ?_) (fun c28 => ?_)
  ·
    rw [nI_leI (by omega) (by omega)] at c28
    obtain rfl : f = 0 := by omega
    have hj : j = bnd sN T a b := he
    refine lv_iload hx hb dX1_stepOfShare_60 (lv_at hl 0 rfl) ?_
    exact kret_i F hI dX1_stepOfShare_62 (⟨by rw [hj], rfl⟩)
  ·
    rw [nI_leI (by omega) (by omega)] at c28
    obtain ⟨f, rfl⟩ : ∃ f', f = f' + 1 := ⟨f - 1, by omega⟩
    refine lv_lload hx hb dX1_stepOfShare_31 (lv_at hl 1 rfl) ?_
    refine lv_iload_n hx hb dX1_stepOfShare_33 rfl (lv_at hl 5 rfl) ?_
    refine lv_i2l hx hb dX1_stepOfShare_34 rfl ?_
    refine ktopl (y := lN (b)) (by exact nI_l (by omega)) ?_
    refine lv_lmul hx hb dX1_stepOfShare_35 ?_
    refine ktopl (y := lN (sumN sN (j + 1) * b)) (by exact lN_mul _ _) ?_
    refine lv_lload_n hx hb dX1_stepOfShare_36 rfl (lv_at hl 2 rfl) ?_
    refine W.lcmp hx hb dX1_stepOfShare_37 ?_
    refine lv_if_ge (tgt := 60) hx hb dX1_stepOfShare_38 (by decide) (fun c38 => ?_) (fun c38 => ?_)
    ·
      rw [lg_cmp_ge, pk_lLE haT hsb] at c38
      have hj : j = bnd sN T a b := by rw [← he]; simp [bndL, show ¬ sumN sN (j + 1) * b < a * T by omega]
      refine lv_iload hx hb dX1_stepOfShare_60 (lv_at hl 0 rfl) ?_
      exact kret_i F hI dX1_stepOfShare_62 (⟨by rw [hj], rfl⟩)
    ·
      rw [lg_cmp_ge, pk_lLE haT hsb] at c38
      refine lv_iinc (v := nI (j + 1)) (lv' := [(7, .int _), (5, .long _), (3, .long _), (0, .ref _), (1, .int _), (2, .int _)]) hx hb dX1_stepOfShare_41 hl (k := 0) rfl (kinc _ 1) (by decide) rfl (fun ls hl => ?_)
      refine lv_lload hx hb dX1_stepOfShare_44 (lv_at hl 1 rfl) ?_
      refine lv_aload_n hx hb dX1_stepOfShare_46 rfl (lv_at hl 3 rfl) ?_
      refine x_get F hI 4 (by decide) rfl flX1_33 dX1_stepOfShare_47 ?_
      refine lv_iload hx hb dX1_stepOfShare_50 (lv_at hl 0 rfl) ?_
      refine x_ald F hI 3 (show (j + 1) < 14 by omega) rfl dX1_stepOfShare_52 ?_
      refine ktop (y := nI (sN (j + 1))) (by exact h12 (j + 1) (by omega)) ?_
      have hj1 := sumN_le sN (show j + 1 + 1 ≤ 14 by omega)
      have e1 : sumN sN (j + 1 + 1) = sumN sN (j + 1) + sN (j + 1) := rfl
      refine lv_i2l hx hb dX1_stepOfShare_53 rfl ?_
      refine ktopl (y := lN (sN (j + 1))) (by exact nI_l (by omega)) ?_
      refine lv_ladd hx hb dX1_stepOfShare_54 ?_
      refine ktopl (y := lN (sumN sN (j + 1 + 1))) (by exact lN_add _ _) ?_
      refine lv_lstore (lv' := [(5, .long _), (7, .int _), (3, .long _), (0, .ref _), (1, .int _), (2, .int _)]) hx hb dX1_stepOfShare_55 hl (by decide) rfl (fun ls hl => ?_)
      refine lv_goto (tgt := 24) hx hb dX1_stepOfShare_57 (by decide) ?_
      exact ih (f, j + 1) _ _ _ (by show f < f + 1; omega) ⟨by show j + 1 + f = _; omega, by rw [← he]; simp [bndL, show sumN sN (j + 1) * b < a * T by omega], hI, lv_sub hl [1, 0, 2, 3, 4, 5] rfl⟩
theorem xc_bound_bad (st : XS) (a b w : Int32) (h : inR b (nI 1) (nI 1000) = false ∨ inR a (nI 0) b = false ∨ decide (¬ w < 0 ∧ ¬ nI 2 ≤ w) = false) : kM l yX1_bound cX1_bound 5 (some .int) 1 27 0 0 D (xty K) (xw g K) [.ref (g 0), .int a, .int b, .int w] st (fun v u => v = some (.int (-1)) ∧ u = st) := by
  refine kM_intro (by decide) (Nat.le_of_ble_eq_true rfl) ?_
  intro p e s m below meth c A ls F hA hI hl
  obtain ⟨hx, hb, hr, hml, hown, hts, hlk, hK, hnm⟩ := id F
  have hl : lv_has ls 5 [(0, .ref (g 0)), (1, .int a), (2, .int b), (3, .int w)] := hl
  refine lv_iload_n hx hb dX1_bound_0 rfl (lv_at hl 2 rfl) ?_
  refine lv_iconst (v := nI 1) hx hb dX1_bound_1 (by decide) ?_
  refine lv_sipush (v := nI 1000) hx hb dX1_bound_2 (by decide) ?_
  refine kcallS (rest := []) F hA hI (xc_isWithin l _ _ _ _) kgX1_73 hl.1 rfl rfl (Nat.le_of_ble_eq_true rfl) dX1_bound_5 ⟨Nat.le_of_ble_eq_true rfl, Nat.le_of_ble_eq_true rfl⟩ ⟨Nat.le_of_ble_eq_true rfl, Nat.le_of_ble_eq_true rfl⟩ (fun vq uq H locs hp hI => ?_)
  obtain ⟨rfl, hu⟩ := hp
  rw [hu] at hI
  clear hu
  refine kstk (b := .int _ :: []) rfl ?_
  refine lv_if_eq (tgt := 28) hx hb dX1_bound_8 (by decide) (fun c8 => ?_) (fun c8 => ?_)
  ·
    rw [bI_z] at c8
    refine lv_iconst (v := -1) hx hb dX1_bound_28 (by decide) ?_
    exact kret_i F hI dX1_bound_29 (⟨rfl, rfl⟩)
  ·
    rw [bI_z] at c8
    refine lv_iload_n hx hb dX1_bound_11 rfl (lv_at hl 1 rfl) ?_
    refine lv_iconst (v := nI 0) hx hb dX1_bound_12 (by decide) ?_
    refine lv_iload_n hx hb dX1_bound_13 rfl (lv_at hl 2 rfl) ?_
    refine kcallS (rest := []) F hA hI (xc_isWithin l _ _ _ _) kgX1_73 hl.1 rfl rfl (Nat.le_of_ble_eq_true rfl) dX1_bound_14 ⟨Nat.le_of_ble_eq_true rfl, Nat.le_of_ble_eq_true rfl⟩ ⟨Nat.le_of_ble_eq_true rfl, Nat.le_of_ble_eq_true rfl⟩ (fun vq uq H locs hp hI => ?_)
    obtain ⟨rfl, hu⟩ := hp
    rw [hu] at hI
    clear hu
    refine kstk (b := .int _ :: []) rfl ?_
    refine lv_if_eq (tgt := 28) hx hb dX1_bound_17 (by decide) (fun c17 => ?_) (fun c17 => ?_)
    ·
      rw [bI_z] at c17
      refine lv_iconst (v := -1) hx hb dX1_bound_28 (by decide) ?_
      exact kret_i F hI dX1_bound_29 (⟨rfl, rfl⟩)
    ·
      rw [bI_z] at c17
      refine lv_iload_n hx hb dX1_bound_20 rfl (lv_at hl 3 rfl) ?_
      refine lv_iconst (v := nI 2) hx hb dX1_bound_21 (by decide) ?_
      refine kcallS (rest := []) F hA hI (xc_isBelow l _ _ _) kgX1_52 hl.1 rfl rfl (Nat.le_of_ble_eq_true rfl) dX1_bound_22 ⟨Nat.le_of_ble_eq_true rfl, Nat.le_of_ble_eq_true rfl⟩ ⟨Nat.le_of_ble_eq_true rfl, Nat.le_of_ble_eq_true rfl⟩ (fun vq uq H locs hp hI => ?_)
      obtain ⟨rfl, hu⟩ := hp
      rw [hu] at hI
      clear hu
      refine kstk (b := .int _ :: []) rfl ?_
      refine lv_if_ne (tgt := 30) hx hb dX1_bound_25 (by decide) (fun c25 => absurd c25 ((fun q => q (bI_z.mpr ((h.resolve_left c8).resolve_left c17))))) (fun c25 => ?_)
      refine lv_iconst (v := -1) hx hb dX1_bound_28 (by decide) ?_
      exact kret_i F hI dX1_bound_29 (⟨rfl, rfl⟩)
theorem bndL_le (sN : Nat → Nat) (T a b : Nat) : ∀ f j : Nat, bndL sN T a b f j ≤ j + f := by
  intro f
  induction f with
  | zero => intro j; exact Nat.le_refl _
  | succ f ih =>
    intro j
    unfold bndL
    split
    · have := ih (j + 1)
      omega
    · omega
theorem xc_bound (st : XS) (a b w : Nat) (sN : Nat → Nat) (T : Nat) (hb1 : 1 ≤ b) (hb2 : b ≤ 1000) (ha : a ≤ b) (hw : w < 2) (hT : T < 2 ^ 22) (hS : sumN sN 14 = T) (h12 : ∀ j, j < 14 → st.1 3 j = nI (sN j)) (h10 : st.1 2 10 = nI T) : kM l yX1_bound cX1_bound 5 (some .int) 1 27 0 0 D (xty K) (xw g K) [.ref (g 0), .int (nI a), .int (nI b), .int (nI w)] st (fun v u => v = some (.int (if T = 0 then -9 else bval (bnd sN T a b) w)) ∧ u = st) := by
  refine kM_intro (by decide) (Nat.le_of_ble_eq_true rfl) ?_
  intro p e s m below meth c A ls F hA hI hl
  obtain ⟨hx, hb, hr, hml, hown, hts, hlk, hK, hnm⟩ := id F
  have hl : lv_has ls 5 [(0, .ref (g 0)), (1, .int (nI a)), (2, .int (nI b)), (3, .int (nI w))] := hl
  have g1 : inR (nI b) (nI 1) (nI 1000) = true := inR_in (by decide) (by omega) (by omega)
  have g2 : inR (nI a) (nI 0) (nI b) = true := inR_in (by omega) (by omega) (by omega)
  have g3 := isB_t (show w < 2 by omega) (by decide)
  have zT : nI T = 0 ↔ T = 0 := nI_eq (b := 0) (by omega) (by decide)
  have hj13 : bnd sN T a b ≤ 13 := by have := bndL_le sN T a b 13 0; rw [bnd]; omega
  generalize hj : bnd sN T a b = j at hj13
  have zj : nI j = 0 ↔ j = 0 := nI_eq (b := 0) (by omega) (by decide)
  refine lv_iload_n hx hb dX1_bound_0 rfl (lv_at hl 2 rfl) ?_
  refine lv_iconst (v := nI 1) hx hb dX1_bound_1 (by decide) ?_
  refine lv_sipush (v := nI 1000) hx hb dX1_bound_2 (by decide) ?_
  refine kcallS (rest := []) F hA hI (xc_isWithin l _ _ _ _) kgX1_73 hl.1 rfl rfl (Nat.le_of_ble_eq_true rfl) dX1_bound_5 ⟨Nat.le_of_ble_eq_true rfl, Nat.le_of_ble_eq_true rfl⟩ ⟨Nat.le_of_ble_eq_true rfl, Nat.le_of_ble_eq_true rfl⟩ (fun vq uq H locs hp hI => ?_)
  obtain ⟨rfl, hu⟩ := hp
  rw [hu] at hI
  clear hu
  refine kstk (b := .int _ :: []) rfl ?_
  refine lv_if_eq (tgt := 28) hx hb dX1_bound_8 (by decide) (fun c8 => absurd c8 ((fun q => by rw [bI_z, g1] at q; cases q))) (fun c8 => ?_)
  refine lv_iload_n hx hb dX1_bound_11 rfl (lv_at hl 1 rfl) ?_
  refine lv_iconst (v := nI 0) hx hb dX1_bound_12 (by decide) ?_
  refine lv_iload_n hx hb dX1_bound_13 rfl (lv_at hl 2 rfl) ?_
  refine kcallS (rest := []) F hA hI (xc_isWithin l _ _ _ _) kgX1_73 hl.1 rfl rfl (Nat.le_of_ble_eq_true rfl) dX1_bound_14 ⟨Nat.le_of_ble_eq_true rfl, Nat.le_of_ble_eq_true rfl⟩ ⟨Nat.le_of_ble_eq_true rfl, Nat.le_of_ble_eq_true rfl⟩ (fun vq uq H locs hp hI => ?_)
  obtain ⟨rfl, hu⟩ := hp
  rw [hu] at hI
  clear hu
  refine kstk (b := .int _ :: []) rfl ?_
  refine lv_if_eq (tgt := 28) hx hb dX1_bound_17 (by decide) (fun c17 => absurd c17 ((fun q => by rw [bI_z, g2] at q; cases q))) (fun c17 => ?_)
  refine lv_iload_n hx hb dX1_bound_20 rfl (lv_at hl 3 rfl) ?_
  refine lv_iconst (v := nI 2) hx hb dX1_bound_21 (by decide) ?_
  refine kcallS (rest := []) F hA hI (xc_isBelow l _ _ _) kgX1_52 hl.1 rfl rfl (Nat.le_of_ble_eq_true rfl) dX1_bound_22 ⟨Nat.le_of_ble_eq_true rfl, Nat.le_of_ble_eq_true rfl⟩ ⟨Nat.le_of_ble_eq_true rfl, Nat.le_of_ble_eq_true rfl⟩ (fun vq uq H locs hp hI => ?_)
  obtain ⟨rfl, hu⟩ := hp
  rw [hu] at hI
  clear hu
  refine kstk (b := .int _ :: []) rfl ?_
  refine lv_if_ne (tgt := 30) hx hb dX1_bound_25 (by decide) (fun c25 => ?_) (fun c25 => absurd c25 ((fun q => by rw [bI_z, g3] at q; cases q)))
  refine lv_aload_n hx hb dX1_bound_30 rfl (lv_at hl 0 rfl) ?_
  refine x_get F hI 2 (by decide) rfl flX1_25 dX1_bound_31 ?_
  refine lv_bipush (v := nI 10) hx hb dX1_bound_34 (by decide) ?_
  refine x_ald F hI 2 (show 10 < 13 by omega) rfl dX1_bound_36 ?_
  refine ktop (y := nI (T)) (by exact h10) ?_
  refine lv_if_ne (tgt := 43) hx hb dX1_bound_37 (by decide) (fun c37 => ?_) (fun c37 => ?_)
  ·
    rw [zT] at c37
    refine lv_aload_n hx hb dX1_bound_43 rfl (lv_at hl 0 rfl) ?_
    refine lv_iload_n hx hb dX1_bound_44 rfl (lv_at hl 1 rfl) ?_
    refine lv_iload_n hx hb dX1_bound_45 rfl (lv_at hl 2 rfl) ?_
    refine kcallV (rest := []) F hA hI (xc_share l _ a b sN T hb2 ha hT hS h12 h10) kgX1_149 (x_rec F hI) hl.1 rfl rfl (Nat.le_of_ble_eq_true rfl) dX1_bound_46 ⟨Nat.le_of_ble_eq_true rfl, Nat.le_of_ble_eq_true rfl⟩ ⟨Nat.le_of_ble_eq_true rfl, Nat.le_of_ble_eq_true rfl⟩ (fun vq uq H locs hp hI => ?_)
    obtain ⟨rfl, hu⟩ := hp
    rw [hu] at hI
    clear hu
    refine kstk (b := .int _ :: []) rfl ?_
    refine ktop (y := nI (j)) (by rw [hj]) ?_
    refine lv_istore (lv' := [(4, .int _), (0, .ref _), (1, .int _), (2, .int _), (3, .int _)]) hx hb dX1_bound_49 hl (by decide) rfl (fun ls hl => ?_)
    refine lv_iload_n hx hb dX1_bound_51 rfl (lv_at hl 4 rfl) ?_
    refine lv_iconst (v := nI 1) hx hb dX1_bound_52 (by decide) ?_
    refine lv_icmp_ne (tgt := 61) hx hb dX1_bound_53 (by decide) (fun c53 => ?_) (fun c53 => ?_)
    ·
      rw [nI_eq (by omega) (by omega)] at c53
      refine lv_iload hx hb dX1_bound_61 (lv_at hl 0 rfl) ?_
      refine lv_if_ne (tgt := 70) hx hb dX1_bound_63 (by decide) (fun c63 => ?_) (fun c63 => ?_)
      ·
        rw [zj] at c63
        refine lv_iconst (v := nI 1) hx hb dX1_bound_70 (by decide) ?_
        refine lv_iload hx hb dX1_bound_71 (lv_at hl 0 rfl) ?_
        refine lv_iconst (v := nI 1) hx hb dX1_bound_73 (by decide) ?_
        refine lv_isub hx hb dX1_bound_74 ?_
        refine lv_ishl hx hb dX1_bound_75 ?_
        exact kret_i F hI dX1_bound_76 (⟨by simp [c37, bval, c53, c63], rfl⟩)
      ·
        rw [zj] at c63
        refine lv_iconst (v := nI 0) hx hb dX1_bound_66 (by decide) ?_
        refine lv_goto (tgt := 76) hx hb dX1_bound_67 (by decide) ?_
        exact kret_i F hI dX1_bound_76 (⟨by simp [c37, bval, c53, c63], rfl⟩)
    ·
      rw [nI_eq (by omega) (by omega)] at c53
      refine lv_iconst (v := nI 1) hx hb dX1_bound_56 (by decide) ?_
      refine lv_iload hx hb dX1_bound_57 (lv_at hl 0 rfl) ?_
      refine lv_ishl hx hb dX1_bound_59 ?_
      exact kret_i F hI dX1_bound_60 (⟨by simp [c37, bval, c53], rfl⟩)
  ·
    rw [zT] at c37
    refine lv_bipush (v := -9) hx hb dX1_bound_40 (by decide) ?_
    exact kret_i F hI dX1_bound_42 (⟨by simp [c37], rfl⟩)
theorem xc_leave (st : XS) : kM l yX1_leaveFair cX1_leaveFair 2 none 0 0 0 0 D (xty K) (xw g K) [.ref (g 0)] st (fun v u => v = none ∧ u = x_leaveL 5 0 st) := by
  refine kM_intro (by decide) (Nat.le_of_ble_eq_true rfl) ?_
  intro p e s m below meth c A ls F hA hI hl
  obtain ⟨hx, hb, hr, hml, hown, hts, hlk, hK, hnm⟩ := id F
  have hl : lv_has ls 2 [(0, .ref (g 0))] := hl
  refine lv_iconst (v := nI 0) hx hb dX1_leaveFair_0 (by decide) ?_
  refine lv_istore_n (lv' := [(1, .int _), (0, .ref _)]) hx hb dX1_leaveFair_1 rfl hl (by decide) rfl (fun ls hl => ?_)
  refine wloop (σ := Nat × Nat × XS) (fun x => x.1) (fun x H locs ls => x.2.1 + x.1 = 5 ∧ x_leaveL x.1 x.2.1 x.2.2 = x_leaveL 5 0 st ∧ kI D (xw g K) A s.heap x.2.2 H locs ∧ lv_has ls 2 [(1, .int (nI x.2.1)), (0, .ref (g 0))]) ?_ (5, 0, st) _ _ _ ⟨rfl, rfl, hI, lv_sub hl [0, 1] rfl⟩
  rintro ⟨f, i, u⟩ H locs ls ⟨hk, he, hI, hl⟩ ih
  dsimp only at hk he hI hl ih
  refine lv_iload_n hx hb dX1_leaveFair_2 rfl (lv_at hl 0 rfl) ?_
  refine lv_iconst (v := nI 5) hx hb dX1_leaveFair_3 (by decide) ?_
  refine lv_icmp_ge (tgt := 42) hx hb dX1_leaveFair_4 (by decide) (fun c4 => ?_) (fun c4 => ?_)
  ·
    rw [nI_leI (by omega) (by omega)] at c4
    obtain rfl : f = 0 := by omega
    have he : u = x_leaveL 5 0 st := he
    exact kret_v F hI dX1_leaveFair_42 (⟨rfl, he⟩)
  ·
    rw [nI_leI (by omega) (by omega)] at c4
    obtain ⟨f, rfl⟩ : ∃ f', f = f' + 1 := ⟨f - 1, by omega⟩
    refine lv_aload_n hx hb dX1_leaveFair_7 rfl (lv_at hl 1 rfl) ?_
    refine x_get F hI 3 (by decide) rfl flX1_30 dX1_leaveFair_8 ?_
    refine lv_iload_n hx hb dX1_leaveFair_11 rfl (lv_at hl 0 rfl) ?_
    refine x_tal F hI (s' := i) (by omega) rfl dX1_leaveFair_12 ?_
    refine lv_bipush (v := nI 6) hx hb dX1_leaveFair_13 (by decide) ?_
    refine lv_dup2_11 hx hb dX1_leaveFair_15 rfl rfl ?_
    refine x_tald F hI (s' := i) (by omega) (show 6 < 7 by omega) rfl dX1_leaveFair_16 ?_
    refine lv_aload_n hx hb dX1_leaveFair_17 rfl (lv_at hl 1 rfl) ?_
    refine x_get F hI 3 (by decide) rfl flX1_30 dX1_leaveFair_18 ?_
    refine lv_iload_n hx hb dX1_leaveFair_21 rfl (lv_at hl 0 rfl) ?_
    refine x_tal F hI (s' := i) (by omega) rfl dX1_leaveFair_22 ?_
    refine lv_iconst (v := nI 5) hx hb dX1_leaveFair_23 (by decide) ?_
    refine x_tald F hI (s' := i) (by omega) (show 5 < 7 by omega) rfl dX1_leaveFair_24 ?_
    refine lv_iadd hx hb dX1_leaveFair_25 ?_
    refine x_tast F hI (s' := i) (by omega) (show 6 < 7 by omega) rfl dX1_leaveFair_26 (fun H locs hI => ?_)
    have hI : kI D _ A s.heap (xadd u (4 + i) 6 (u.1 (4 + i) 5)) H locs := hI
    generalize hS26 : xadd u (4 + i) 6 (u.1 (4 + i) 5) = S26 at hI
    refine lv_aload_n hx hb dX1_leaveFair_27 rfl (lv_at hl 1 rfl) ?_
    refine x_get F hI 3 (by decide) rfl flX1_30 dX1_leaveFair_28 ?_
    refine lv_iload_n hx hb dX1_leaveFair_31 rfl (lv_at hl 0 rfl) ?_
    refine x_tal F hI (s' := i) (by omega) rfl dX1_leaveFair_32 ?_
    refine lv_iconst (v := nI 5) hx hb dX1_leaveFair_33 (by decide) ?_
    refine lv_iconst (v := nI 0) hx hb dX1_leaveFair_34 (by decide) ?_
    refine x_tast F hI (s' := i) (by omega) (show 5 < 7 by omega) rfl dX1_leaveFair_35 (fun H locs hI => ?_)
    have hI : kI D _ A s.heap (xset S26 (4 + i) 5 (nI 0)) H locs := hI
    generalize hS35 : xset S26 (4 + i) 5 (nI 0) = S35 at hI
    refine lv_iinc (v := nI (i + 1)) (lv' := [(1, .int _), (0, .ref _)]) hx hb dX1_leaveFair_36 hl (k := 0) rfl (kinc _ 1) (by decide) rfl (fun ls hl => ?_)
    refine lv_goto (tgt := 2) hx hb dX1_leaveFair_39 (by decide) ?_
    exact ih (f, i + 1, S35) _ _ _ (by show f < f + 1; omega) ⟨by show i + 1 + f = _; omega, by rw [← he, ← hS35, ← hS26]; rfl, hI, lv_sub hl [0, 1] rfl⟩
theorem xc_set_bad (st : XS) (x v : Int32) (h : decide (¬ x < 0 ∧ ¬ nI 6 ≤ x) = false ∨ ∃ w, w < 6 ∧ x = nI w ∧ inR v (lfS w) (gfS w) = false) : kMZ l yX1_set cX1_set 4 (some .int) 1 22 0 0 D (xty K) (xw g K) [.ref (g 0), .int x, .int v] st (fun r u => r = some (.int (-1)) ∧ u = st) := by
  refine kMZ_intro (by decide) (Nat.le_of_ble_eq_true rfl) ?_
  intro p e s m below meth c A ls F hA hI hZ hl
  obtain ⟨hx, hb, hr, hml, hown, hts, hlk, hK, hnm⟩ := id F
  have hl : lv_has ls 4 [(0, .ref (g 0)), (1, .int x), (2, .int v)] := hl
  obtain ⟨t1, t2, hZ1, hT1, hZ2, hT2⟩ := hZ
  rcases h with h | ⟨w, hw, rfl, h⟩
  · have hl := hl
    refine lv_iload_n hx hb dX1_set_0 rfl (lv_at hl 1 rfl) ?_
    refine lv_bipush (v := nI 6) hx hb dX1_set_1 (by decide) ?_
    refine kcallS (rest := []) F hA hI (xc_isBelow l _ _ _) kgX1_52 hl.1 rfl rfl (Nat.le_of_ble_eq_true rfl) dX1_set_3 ⟨Nat.le_of_ble_eq_true rfl, Nat.le_of_ble_eq_true rfl⟩ ⟨Nat.le_of_ble_eq_true rfl, Nat.le_of_ble_eq_true rfl⟩ (fun vq uq H locs hp hI => ?_)
    obtain ⟨rfl, hu⟩ := hp
    rw [hu] at hI
    clear hu
    refine kstk (b := .int _ :: []) rfl ?_
    refine lv_if_eq (tgt := 26) hx hb dX1_set_6 (by decide) (fun c6 => ?_) (fun c6 => absurd c6 ((fun q => q (bI_z.mpr h))))
    refine lv_iconst (v := -1) hx hb dX1_set_26 (by decide) ?_
    exact kret_i F hI dX1_set_27 (⟨rfl, rfl⟩)
  · have g1 := isB_t (show w < 6 by omega) (by decide)
    refine lv_iload_n hx hb dX1_set_0 rfl (lv_at hl 1 rfl) ?_
    refine lv_bipush (v := nI 6) hx hb dX1_set_1 (by decide) ?_
    refine kcallS (rest := []) F hA hI (xc_isBelow l _ _ _) kgX1_52 hl.1 rfl rfl (Nat.le_of_ble_eq_true rfl) dX1_set_3 ⟨Nat.le_of_ble_eq_true rfl, Nat.le_of_ble_eq_true rfl⟩ ⟨Nat.le_of_ble_eq_true rfl, Nat.le_of_ble_eq_true rfl⟩ (fun vq uq H locs hp hI => ?_)
    obtain ⟨rfl, hu⟩ := hp
    rw [hu] at hI
    clear hu
    refine kstk (b := .int _ :: []) rfl ?_
    refine lv_if_eq (tgt := 26) hx hb dX1_set_6 (by decide) (fun c6 => absurd c6 ((fun q => by rw [bI_z, g1] at q; cases q))) (fun c6 => ?_)
    refine lv_iload_n hx hb dX1_set_9 rfl (lv_at hl 2 rfl) ?_
    refine va_gets hx hb hZ1 hI.2.2 hown (hts _ flX1_67) (fun _ h9 => h9) dX1_set_10 ?_
    refine lv_iload_n hx hb dX1_set_13 rfl (lv_at hl 1 rfl) ?_
    refine va_ti (v := .int (lfS w)) hx hb hT1 hI.2.2 (vp_in_nI (show w < 6 by omega) (by decide)) (by rw [nI_clamp (by omega)]) dX1_set_14 ?_
    refine va_gets hx hb hZ2 hI.2.2 hown (hts _ flX1_70) (fun _ h9 => h9) dX1_set_15 ?_
    refine lv_iload_n hx hb dX1_set_18 rfl (lv_at hl 1 rfl) ?_
    refine va_ti (v := .int (gfS w)) hx hb hT2 hI.2.2 (vp_in_nI (show w < 6 by omega) (by decide)) (by rw [nI_clamp (by omega)]) dX1_set_19 ?_
    refine kcallS (rest := []) F hA hI (xc_isWithin l _ _ _ _) kgX1_73 hl.1 rfl rfl (Nat.le_of_ble_eq_true rfl) dX1_set_20 ⟨Nat.le_of_ble_eq_true rfl, Nat.le_of_ble_eq_true rfl⟩ ⟨Nat.le_of_ble_eq_true rfl, Nat.le_of_ble_eq_true rfl⟩ (fun vq uq H locs hp hI => ?_)
    obtain ⟨rfl, hu⟩ := hp
    rw [hu] at hI
    clear hu
    refine kstk (b := .int _ :: []) rfl ?_
    refine lv_if_ne (tgt := 28) hx hb dX1_set_23 (by decide) (fun c23 => absurd c23 ((fun q => q (bI_z.mpr h)))) (fun c23 => ?_)
    refine lv_iconst (v := -1) hx hb dX1_set_26 (by decide) ?_
    exact kret_i F hI dX1_set_27 (⟨rfl, rfl⟩)
theorem xc_set (st : XS) (w : Nat) (v : Int32) (hw : w < 6) (h : inR v (lfS w) (gfS w) = true) : kMZ l yX1_set cX1_set 4 (some .int) 1 22 0 0 D (xty K) (xw g K) [.ref (g 0), .int (nI w), .int v] st (fun r u => r = some (.int (st.1 1 w)) ∧ u = x_setR st w v) := by
  refine kMZ_intro (by decide) (Nat.le_of_ble_eq_true rfl) ?_
  intro p e s m below meth c A ls F hA hI hZ hl
  obtain ⟨hx, hb, hr, hml, hown, hts, hlk, hK, hnm⟩ := id F
  have hl : lv_has ls 4 [(0, .ref (g 0)), (1, .int (nI w)), (2, .int v)] := hl
  obtain ⟨t1, t2, hZ1, hT1, hZ2, hT2⟩ := hZ
  have g1 := isB_t (show w < 6 by omega) (by decide)
  have z0 : nI w = 0 ↔ w = 0 := nI_eq (b := 0) (by omega) (by decide)
  refine lv_iload_n hx hb dX1_set_0 rfl (lv_at hl 1 rfl) ?_
  refine lv_bipush (v := nI 6) hx hb dX1_set_1 (by decide) ?_
  refine kcallS (rest := []) F hA hI (xc_isBelow l _ _ _) kgX1_52 hl.1 rfl rfl (Nat.le_of_ble_eq_true rfl) dX1_set_3 ⟨Nat.le_of_ble_eq_true rfl, Nat.le_of_ble_eq_true rfl⟩ ⟨Nat.le_of_ble_eq_true rfl, Nat.le_of_ble_eq_true rfl⟩ (fun vq uq H locs hp hI => ?_)
  obtain ⟨rfl, hu⟩ := hp
  rw [hu] at hI
  clear hu
  refine kstk (b := .int _ :: []) rfl ?_
  refine lv_if_eq (tgt := 26) hx hb dX1_set_6 (by decide) (fun c6 => absurd c6 ((fun q => by rw [bI_z, g1] at q; cases q))) (fun c6 => ?_)
  refine lv_iload_n hx hb dX1_set_9 rfl (lv_at hl 2 rfl) ?_
  refine va_gets hx hb hZ1 hI.2.2 hown (hts _ flX1_67) (fun _ h9 => h9) dX1_set_10 ?_
  refine lv_iload_n hx hb dX1_set_13 rfl (lv_at hl 1 rfl) ?_
  refine va_ti (v := .int (lfS w)) hx hb hT1 hI.2.2 (vp_in_nI (show w < 6 by omega) (by decide)) (by rw [nI_clamp (by omega)]) dX1_set_14 ?_
  refine va_gets hx hb hZ2 hI.2.2 hown (hts _ flX1_70) (fun _ h9 => h9) dX1_set_15 ?_
  refine lv_iload_n hx hb dX1_set_18 rfl (lv_at hl 1 rfl) ?_
  refine va_ti (v := .int (gfS w)) hx hb hT2 hI.2.2 (vp_in_nI (show w < 6 by omega) (by decide)) (by rw [nI_clamp (by omega)]) dX1_set_19 ?_
  refine kcallS (rest := []) F hA hI (xc_isWithin l _ _ _ _) kgX1_73 hl.1 rfl rfl (Nat.le_of_ble_eq_true rfl) dX1_set_20 ⟨Nat.le_of_ble_eq_true rfl, Nat.le_of_ble_eq_true rfl⟩ ⟨Nat.le_of_ble_eq_true rfl, Nat.le_of_ble_eq_true rfl⟩ (fun vq uq H locs hp hI => ?_)
  obtain ⟨rfl, hu⟩ := hp
  rw [hu] at hI
  clear hu
  refine kstk (b := .int _ :: []) rfl ?_
  refine lv_if_ne (tgt := 28) hx hb dX1_set_23 (by decide) (fun c23 => ?_) (fun c23 => absurd c23 ((fun q => by rw [bI_z, h] at q; cases q)))
  refine lv_aload_n hx hb dX1_set_28 rfl (lv_at hl 0 rfl) ?_
  refine x_get F hI 1 (by decide) rfl flX1_22 dX1_set_29 ?_
  refine lv_iload_n hx hb dX1_set_32 rfl (lv_at hl 1 rfl) ?_
  refine x_ald F hI 1 (show w < 6 by omega) rfl dX1_set_33 ?_
  refine lv_istore_n (lv' := [(3, .int _), (0, .ref _), (1, .int _), (2, .int _)]) hx hb dX1_set_34 rfl hl (by decide) rfl (fun ls hl => ?_)
  refine lv_iload_n hx hb dX1_set_35 rfl (lv_at hl 2 rfl) ?_
  refine lv_if_ne (tgt := 48) hx hb dX1_set_36 (by decide) (fun c36 => ?_) (fun c36 => ?_)
  ·
    rw [z0] at c36
    refine lv_aload_n hx hb dX1_set_48 rfl (lv_at hl 1 rfl) ?_
    refine x_get F hI 1 (by decide) rfl flX1_22 dX1_set_49 ?_
    refine lv_iload_n hx hb dX1_set_52 rfl (lv_at hl 2 rfl) ?_
    refine lv_iload_n hx hb dX1_set_53 rfl (lv_at hl 3 rfl) ?_
    refine x_ast F hI 1 (show w < 6 by omega) rfl dX1_set_54 (fun H locs hI => ?_)
    refine lv_iload_n hx hb dX1_set_55 rfl (lv_at hl 0 rfl) ?_
    exact kret_i F hI dX1_set_56 (⟨rfl, by rw [x_setR, if_neg (fun q => c36 q.1)]⟩)
  ·
    rw [z0] at c36
    refine lv_iload_n hx hb dX1_set_39 rfl (lv_at hl 3 rfl) ?_
    refine lv_iload_n hx hb dX1_set_40 rfl (lv_at hl 0 rfl) ?_
    refine lv_icmp_eq (tgt := 48) hx hb dX1_set_41 (by decide) (fun c41 => ?_) (fun c41 => ?_)
    ·
      refine lv_aload_n hx hb dX1_set_48 rfl (lv_at hl 1 rfl) ?_
      refine x_get F hI 1 (by decide) rfl flX1_22 dX1_set_49 ?_
      refine lv_iload_n hx hb dX1_set_52 rfl (lv_at hl 2 rfl) ?_
      refine lv_iload_n hx hb dX1_set_53 rfl (lv_at hl 3 rfl) ?_
      refine x_ast F hI 1 (show w < 6 by omega) rfl dX1_set_54 (fun H locs hI => ?_)
      refine lv_iload_n hx hb dX1_set_55 rfl (lv_at hl 0 rfl) ?_
      exact kret_i F hI dX1_set_56 (⟨rfl, by rw [x_setR, if_neg (fun q => q.2 c41)]⟩)
    ·
      refine lv_aload_n hx hb dX1_set_44 rfl (lv_at hl 1 rfl) ?_
      refine kcallV (rest := []) F hA hI (xc_leave l _) kgX1_77 (x_rec F hI) hl.1 rfl rfl (Nat.le_of_ble_eq_true rfl) dX1_set_45 ⟨Nat.le_of_ble_eq_true rfl, Nat.le_of_ble_eq_true rfl⟩ ⟨Nat.le_of_ble_eq_true rfl, Nat.le_of_ble_eq_true rfl⟩ (fun vq uq H locs hp hI => ?_)
      obtain ⟨rfl, hu⟩ := hp
      rw [hu] at hI
      clear hu
      refine kstk (b := []) rfl ?_
      refine lv_aload_n hx hb dX1_set_48 rfl (lv_at hl 1 rfl) ?_
      refine x_get F hI 1 (by decide) rfl flX1_22 dX1_set_49 ?_
      refine lv_iload_n hx hb dX1_set_52 rfl (lv_at hl 2 rfl) ?_
      refine lv_iload_n hx hb dX1_set_53 rfl (lv_at hl 3 rfl) ?_
      refine x_ast F hI 1 (show w < 6 by omega) rfl dX1_set_54 (fun H locs hI => ?_)
      refine lv_iload_n hx hb dX1_set_55 rfl (lv_at hl 0 rfl) ?_
      exact kret_i F hI dX1_set_56 (⟨rfl, by rw [x_setR, if_pos ⟨c36, c41⟩]⟩)
end XC5
end
