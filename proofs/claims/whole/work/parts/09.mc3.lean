/-! the reference: decides, joins, comes, piece, tick -/
def m_odd (st : MS) (n pq : Nat) (il : Bool) : Prop := (¬ st.1 6 n = -9 ∧ (st.1 6 n < nI pq ∨ il = true)) ∨ (il = true ∧ ¬ st.1 3 n >>> (nI pq &&& 31) = 0)
noncomputable def m_odB (st : MS) (n pq : Nat) (il : Bool) : Bool := (Classical.propDecidable (m_odd st n pq il)).decide
def mor (st : MS) (k i : Nat) (v : Int32) : MS := mset st k i (st.1 k i ||| v)
def mlast (st : MS) (n pq : Nat) (il : Bool) : MS := mset st 6 n (if il = true then nI pq else st.1 6 n)
def m_jn (st : MS) (n pq : Nat) (il : Bool) (z : Nat) : MS := mlast (madd (mor st 3 n (nI 1 <<< (nI pq &&& 31))) 5 n (nI z)) n pq il
noncomputable def m_joins (st : MS) (n pq : Nat) (il : Bool) (z : Nat) : Nat × MS :=
  if (st.1 3 n >>> (nI pq &&& 31)) &&& nI 1 = nI 1 then (3, st)
  else if m_odB st n pq il = true then (4, st)
  else
    if ¬ (m_jn st n pq il z).1 6 n = -9 ∧ (m_jn st n pq il z).1 3 n = (nI 1 <<< (((m_jn st n pq il z).1 6 n + nI 1) &&& 31)) - nI 1 then (2, m_dec (m_jn st n pq il z) n false) else (1, m_jn st n pq il z)
theorem m_odT {st : MS} {n pq : Nat} {il : Bool} (h : m_odd st n pq il) : m_odB st n pq il = true := by
  unfold m_odB
  exact @decide_eq_true _ (Classical.propDecidable _) h
theorem m_odF {st : MS} {n pq : Nat} {il : Bool} (h : ¬ m_odd st n pq il) : ¬ m_odB st n pq il = true := by
  unfold m_odB
  intro q
  exact h (@of_decide_eq_true _ (Classical.propDecidable _) q)
def m_late (st : MS) (pq z i : Nat) : MS := madd (mor st 10 (8 * i + 1) (nI 1 <<< (nI pq &&& 31))) 10 (8 * i + 3) (nI z)
def m_first (st : MS) (n sh : Nat) : MS := mnw (mset (mset (mset (mset (mset st 2 n (hm (m_up st) n)) 3 n (nI 0)) 4 n (nI sh)) 5 n (nI 0)) 6 n (-9)) 7 n
noncomputable def m_comes (st : MS) (n pq : Nat) (il : Bool) (sh z : Nat) : Nat × MS :=
  if hm (m_up st) n = -9 then (7, st)
  else if ¬ st.1 2 n = -9 then m_joins st n pq il z
  else if m_known st n = true then
    if m_keptAt st n = -9 ∨ st.1 1 5 < st.2.1 - st.1 9 n ∨ (st.1 10 (8 * (m_keptAt st n).toNatClampNeg + 1) >>> (nI pq &&& 31)) &&& nI 1 = nI 1 then (6, st)
    else (5, m_late st pq z (m_keptAt st n).toNatClampNeg)
  else if m_wm st = nI 24 then (7, st)
  else m_joins (m_first st n sh) n pq il z
noncomputable def m_piece (st : MS) (n pq : Nat) (il : Bool) (sh z : Nat) : Nat × MS :=
  let r := m_comes st n pq il sh z
  if 3 ≤ r.1 then (r.1, m_inc r.2 13 (r.1 + 2)) else r
theorem m_joins_le (st : MS) (n pq : Nat) (il : Bool) (z : Nat) : (m_joins st n pq il z).1 ≤ 7 := by
  unfold m_joins
  repeat' split
  all_goals (dsimp only; omega)
theorem m_comes_le (st : MS) (n pq : Nat) (il : Bool) (sh z : Nat) : (m_comes st n pq il sh z).1 ≤ 7 := by
  unfold m_comes
  repeat' split
  all_goals first | exact m_joins_le _ _ _ _ _ | (dsimp only; omega)
theorem m_keptL_cases (st : MS) (n : Nat) : ∀ f i : Nat, m_keptL st n f i = -9 ∨ ∃ j, i ≤ j ∧ j < i + f ∧ m_keptL st n f i = nI j := by
  intro f
  induction f with
  | zero => intro i; exact Or.inl rfl
  | succ f ih =>
    intro i
    unfold m_keptL
    split
    · exact Or.inr ⟨i, by omega, by omega, rfl⟩
    · rcases ih (i + 1) with h | ⟨j, h1, h2, h3⟩
      · exact Or.inl h
      · exact Or.inr ⟨j, by omega, by omega, h3⟩
theorem m_keptAt_cases (st : MS) (n : Nat) : m_keptAt st n = -9 ∨ ∃ j, j < st.2.2.2 ∧ m_keptAt st n = nI j := by
  rcases m_keptL_cases st n st.2.2.2 0 with h | ⟨j, h1, h2, h3⟩
  · exact Or.inl h
  · exact Or.inr ⟨j, by omega, h3⟩
theorem nI_n9 {j : Nat} (h : j < 2 ^ 31) : ¬ nI j = -9 := by
  intro q
  have h1 := nI_toInt h
  rw [q] at h1
  have h2 : (-9 : Int32).toInt = -9 := by decide
  omega
section MC3
variable (l : Launch) {D : va_G} {g : Nat → Nat} {K : Nat → ClassId}
theorem mc_decides (st : MS) (n sh z : Nat) (tn : Bool) (hn : n < 100) (hs : sh < 5) (hz : z < 8192) (h4 : st.1 4 n = nI sh) (h5 : st.1 5 n = nI z) (hkm : st.2.2.2 ≤ 20) : kM l yX2_decides cX2_decides 8 none 1 23 0 0 D (mty K) (mw g K) [.ref (g 0), .int (nI n), .int (bI tn)] st (fun v u => v = none ∧ u = m_dec st n tn) := by
  have hdef : m_dec st n tn = m_decS st n sh z tn := by unfold m_dec; rw [h4, h5, nI_clamp (by omega), nI_clamp (by omega)]
  refine kM_intro (by decide) (Nat.le_of_ble_eq_true rfl) ?_
  intro p e s m below meth c A ls F hA hI hl
  obtain ⟨hx, hb, hr, hml, hown, hts, hlk, hK, hnm⟩ := id F
  have hl : lv_has ls 8 [(0, .ref (g 0)), (1, .int (nI n)), (2, .int (bI tn))] := hl
  generalize hw : m_weight st sh (nI z) tn = w
  have hwo : m_only st w.2 := by rw [← hw]; exact m_only_weight st sh (nI z) tn
  have hw5 : w.2.1 5 n = nI z := by rw [hwo.1 5 (by decide)]; exact h5
  have hwk : w.2.2.2.2 ≤ 20 := by rw [hwo.2.2]; exact hkm
  have hfin : m_dec st n tn = m_keep (m_decA w.2 n sh z tn) n sh tn w.1 := by rw [hdef, m_decS, hw]
  have h63 : ∀ (H : Heap) (locs : List Loc) (ls : Array Slot), kI D (mw g K) A s.heap (m_inc w.2 11 (7 * sh)) H locs → lv_has ls 8 [(5, .int (nI (stp z))), (4, .int w.1), (3, .int (nI sh)), (0, .ref (g 0)), (1, .int (nI n)), (2, .int (bI tn))] → W p l e { frames := 1, cells := 0, slots := 0, locals := 23 } s m #[.ref (g 0), .int (nI n), .int (bI tn)] below meth c H locs 0 0 (MQ below (kQ D (mty K) (mw g K) (fun v u => v = none ∧ u = m_dec st n tn) A) #[.ref (g 0), .int (nI n), .int (bI tn)] s 0 0 A) (F0 m 63 ls []) := by
    intro H locs ls hI hl
    have h135 : ∀ (u : MS) (H : Heap) (locs : List Loc) (ls : Array Slot), kI D (mw g K) A s.heap u H locs → u.2.2.2 = w.2.2.2.2 → m_keep u n sh tn w.1 = m_dec st n tn → lv_has ls 8 [(4, .int w.1), (3, .int (nI sh)), (0, .ref (g 0)), (1, .int (nI n)), (2, .int (bI tn))] → W p l e { frames := 1, cells := 0, slots := 0, locals := 23 } s m #[.ref (g 0), .int (nI n), .int (bI tn)] below meth c H locs 0 0 (MQ below (kQ D (mty K) (mw g K) (fun v u => v = none ∧ u = m_dec st n tn) A) #[.ref (g 0), .int (nI n), .int (bI tn)] s 0 0 A) (F0 m 135 ls []) := by
      intro u H locs ls hI huk hfu hl
      generalize hkk : u.2.2.2 = km at huk
      have hk20 : km ≤ 20 := by omega
      have h259 : ∀ (u2 : MS) (H : Heap) (locs : List Loc) (ls : Array Slot), kI D (mw g K) A s.heap u2 H locs → u2.2.2.2 = km → km < 20 → madd (mkm (mcp (mnw u2 10 (8 * km + 6)) 10 (8 * km + 7) 13 10) (km + 1)) 11 (7 * sh + 1) w.1 = m_dec st n tn → lv_has ls 8 [(7, .int (nI (8 * km))), (4, .int w.1), (3, .int (nI sh)), (0, .ref (g 0)), (1, .int (nI n)), (2, .int (bI tn))] → W p l e { frames := 1, cells := 0, slots := 0, locals := 23 } s m #[.ref (g 0), .int (nI n), .int (bI tn)] below meth c H locs 0 0 (MQ below (kQ D (mty K) (mw g K) (fun v u => v = none ∧ u = m_dec st n tn) A) #[.ref (g 0), .int (nI n), .int (bI tn)] s 0 0 A) (F0 m 259 ls []) := by
        intro u2 H locs ls hI huk2 hk21 hfu2 hl
        refine lv_aload_n hx hb dX2_decides_259 rfl (lv_at hl 3 rfl) ?_
        refine m_get F hI 13 (by decide) rfl flX2_41 dX2_decides_260 ?_
        refine lv_iload hx hb dX2_decides_263 (lv_at hl 0 rfl) ?_
        refine lv_bipush (v := nI 6) hx hb dX2_decides_265 (by decide) ?_
        refine lv_iadd hx hb dX2_decides_267 ?_
        refine ktop (y := nI ((8 * km) + 6)) (nI_add _ _) ?_
        refine lv_aload_n hx hb dX2_decides_268 rfl (lv_at hl 3 rfl) ?_
        refine m_get F hI 1 (by decide) rfl flX2_79 dX2_decides_269 ?_
        refine m_ast F hI 10 (show ((8 * km) + 6) < 160 by omega) rfl dX2_decides_272 (fun H locs hI => ?_)
        have hI : kI D _ A s.heap (mnw u2 10 (8 * km + 6)) H locs := hI
        generalize hS272 : mnw u2 10 (8 * km + 6) = S272 at hI
        refine lv_aload_n hx hb dX2_decides_273 rfl (lv_at hl 3 rfl) ?_
        refine m_get F hI 13 (by decide) rfl flX2_41 dX2_decides_274 ?_
        refine lv_iload hx hb dX2_decides_277 (lv_at hl 0 rfl) ?_
        refine lv_bipush (v := nI 7) hx hb dX2_decides_279 (by decide) ?_
        refine lv_iadd hx hb dX2_decides_281 ?_
        refine ktop (y := nI ((8 * km) + 7)) (nI_add _ _) ?_
        refine lv_aload_n hx hb dX2_decides_282 rfl (lv_at hl 3 rfl) ?_
        refine m_get F hI 17 (by decide) rfl flX2_50 dX2_decides_283 ?_
        refine lv_bipush (v := nI 10) hx hb dX2_decides_286 (by decide) ?_
        refine m_ald F hI  13 (show 10 < 13 by omega) rfl dX2_decides_288 ?_
        refine m_ast F hI 10 (show ((8 * km) + 7) < 160 by omega) rfl dX2_decides_289 (fun H locs hI => ?_)
        have hI : kI D _ A s.heap (mcp S272 10 (8 * km + 7) 13 10) H locs := hI
        generalize hS289 : mcp S272 10 (8 * km + 7) 13 10 = S289 at hI
        refine lv_aload_n hx hb dX2_decides_290 rfl (lv_at hl 3 rfl) ?_
        refine lv_dup hx hb dX2_decides_291 rfl ?_
        refine m_get F hI 14 (by decide) rfl flX2_82 dX2_decides_292 ?_
        refine ktop (y := nI (S289.2.2.2)) rfl ?_
        refine lv_iconst (v := nI 1) hx hb dX2_decides_295 (by decide) ?_
        refine lv_iadd hx hb dX2_decides_296 ?_
        refine ktop (y := nI ((S289.2.2.2) + 1)) (nI_add _ _) ?_
        refine ktop (y := nI (km + 1)) (by exact congrArg (fun q => nI (q + 1)) (by rw [← hS289, ← hS272]; exact huk2)) ?_
        refine m_putKm F hI flX2_82 dX2_decides_297 (fun H locs hI => ?_)
        have hI : kI D _ A s.heap (mkm S289 (km + 1)) H locs := hI
        generalize hS297 : mkm S289 (km + 1) = S297 at hI
        refine lv_aload_n hx hb dX2_decides_300 rfl (lv_at hl 3 rfl) ?_
        refine m_get F hI 15 (by decide) rfl flX2_44 dX2_decides_301 ?_
        refine lv_bipush (v := nI 7) hx hb dX2_decides_304 (by decide) ?_
        refine lv_iload_n hx hb dX2_decides_306 rfl (lv_at hl 2 rfl) ?_
        refine lv_imul hx hb dX2_decides_307 ?_
        refine ktop (y := nI (7 * sh)) (pk_mul _ _) ?_
        refine lv_iconst (v := nI 1) hx hb dX2_decides_308 (by decide) ?_
        refine lv_iadd hx hb dX2_decides_309 ?_
        refine ktop (y := nI ((7 * sh) + 1)) (nI_add _ _) ?_
        refine lv_dup2_11 hx hb dX2_decides_310 rfl rfl ?_
        refine m_ald F hI  11 (show ((7 * sh) + 1) < 35 by omega) rfl dX2_decides_311 ?_
        refine lv_iload hx hb dX2_decides_312 (lv_at hl 1 rfl) ?_
        refine lv_iadd hx hb dX2_decides_314 ?_
        refine m_ast F hI 11 (show ((7 * sh) + 1) < 35 by omega) rfl dX2_decides_315 (fun H locs hI => ?_)
        have hI : kI D _ A s.heap (madd S297 11 (7 * sh + 1) w.1) H locs := hI
        generalize hS315 : madd S297 11 (7 * sh + 1) w.1 = S315 at hI
        exact kret_v F hI dX2_decides_316 (⟨rfl, by rw [← hfu2, ← hS315, ← hS297, ← hS289, ← hS272]⟩)
      refine lv_iload hx hb dX2_decides_135 (lv_at hl 0 rfl) ?_
      refine lv_if_le (tgt := 168) hx hb dX2_decides_137 (by decide) (fun c137 => ?_) (fun c137 => ?_)
      ·
        refine lv_iload hx hb dX2_decides_168 (lv_at hl 0 rfl) ?_
        refine lv_if_le (tgt := 316) hx hb dX2_decides_170 (by decide) (fun c170 => ?_) (fun c170 => absurd c170 ((fun q => q c137)))
        exact kret_v F hI dX2_decides_316 (⟨rfl, by rw [← hfu, m_keep, if_pos c137]⟩)
      ·
        refine lv_aload_n hx hb dX2_decides_140 rfl (lv_at hl 2 rfl) ?_
        refine m_get F hI 14 (by decide) rfl flX2_82 dX2_decides_141 ?_
        refine ktop (y := nI (u.2.2.2)) rfl ?_
        refine ktop (y := nI (km)) (by exact congrArg nI hkk) ?_
        refine lv_bipush (v := nI 20) hx hb dX2_decides_144 (by decide) ?_
        refine lv_icmp_ne (tgt := 168) hx hb dX2_decides_146 (by decide) (fun c146 => ?_) (fun c146 => ?_)
        ·
          rw [nI_eq (by omega) (by omega)] at c146
          refine lv_iload hx hb dX2_decides_168 (lv_at hl 0 rfl) ?_
          refine lv_if_le (tgt := 316) hx hb dX2_decides_170 (by decide) (fun c170 => absurd c170 (c137)) (fun c170 => ?_)
          refine lv_bipush (v := nI 8) hx hb dX2_decides_173 (by decide) ?_
          refine lv_aload_n hx hb dX2_decides_175 rfl (lv_at hl 2 rfl) ?_
          refine m_get F hI 14 (by decide) rfl flX2_82 dX2_decides_176 ?_
          refine ktop (y := nI (u.2.2.2)) rfl ?_
          refine ktop (y := nI (km)) (by exact congrArg nI hkk) ?_
          refine lv_imul hx hb dX2_decides_179 ?_
          refine ktop (y := nI (8 * (km))) (pk_mul _ _) ?_
          refine lv_istore (lv' := [(7, .int _), (4, .int _), (3, .int _), (0, .ref _), (1, .int _), (2, .int _)]) hx hb dX2_decides_180 hl (by decide) rfl (fun ls hl => ?_)
          refine lv_aload_n hx hb dX2_decides_182 rfl (lv_at hl 3 rfl) ?_
          refine m_get F hI 13 (by decide) rfl flX2_41 dX2_decides_183 ?_
          refine lv_iload hx hb dX2_decides_186 (lv_at hl 0 rfl) ?_
          refine lv_iload_n hx hb dX2_decides_188 rfl (lv_at hl 4 rfl) ?_
          refine m_ast F hI 10 (show (8 * (km)) < 160 by omega) rfl dX2_decides_189 (fun H locs hI => ?_)
          have hI : kI D _ A s.heap (mset u 10 (8 * km) (nI n)) H locs := hI
          generalize hS189 : mset u 10 (8 * km) (nI n) = S189 at hI
          refine lv_aload_n hx hb dX2_decides_190 rfl (lv_at hl 3 rfl) ?_
          refine m_get F hI 13 (by decide) rfl flX2_41 dX2_decides_191 ?_
          refine lv_iload hx hb dX2_decides_194 (lv_at hl 0 rfl) ?_
          refine lv_iconst (v := nI 1) hx hb dX2_decides_196 (by decide) ?_
          refine lv_iadd hx hb dX2_decides_197 ?_
          refine ktop (y := nI ((8 * (km)) + 1)) (nI_add _ _) ?_
          refine lv_aload_n hx hb dX2_decides_198 rfl (lv_at hl 3 rfl) ?_
          refine m_get F hI 6 (by decide) rfl flX2_20 dX2_decides_199 ?_
          refine lv_iload_n hx hb dX2_decides_202 rfl (lv_at hl 4 rfl) ?_
          refine m_ald F hI  3 (show n < 100 by omega) rfl dX2_decides_203 ?_
          refine m_ast F hI 10 (show ((8 * (km)) + 1) < 160 by omega) rfl dX2_decides_204 (fun H locs hI => ?_)
          have hI : kI D _ A s.heap (mcp S189 10 (8 * km + 1) 3 n) H locs := hI
          generalize hS204 : mcp S189 10 (8 * km + 1) 3 n = S204 at hI
          refine lv_aload_n hx hb dX2_decides_205 rfl (lv_at hl 3 rfl) ?_
          refine m_get F hI 13 (by decide) rfl flX2_41 dX2_decides_206 ?_
          refine lv_iload hx hb dX2_decides_209 (lv_at hl 0 rfl) ?_
          refine lv_iconst (v := nI 2) hx hb dX2_decides_211 (by decide) ?_
          refine lv_iadd hx hb dX2_decides_212 ?_
          refine ktop (y := nI ((8 * (km)) + 2)) (nI_add _ _) ?_
          refine lv_iload_n hx hb dX2_decides_213 rfl (lv_at hl 2 rfl) ?_
          refine m_ast F hI 10 (show ((8 * (km)) + 2) < 160 by omega) rfl dX2_decides_214 (fun H locs hI => ?_)
          have hI : kI D _ A s.heap (mset S204 10 (8 * km + 2) (nI sh)) H locs := hI
          generalize hS214 : mset S204 10 (8 * km + 2) (nI sh) = S214 at hI
          refine lv_aload_n hx hb dX2_decides_215 rfl (lv_at hl 3 rfl) ?_
          refine m_get F hI 13 (by decide) rfl flX2_41 dX2_decides_216 ?_
          refine lv_iload hx hb dX2_decides_219 (lv_at hl 0 rfl) ?_
          refine lv_iconst (v := nI 3) hx hb dX2_decides_221 (by decide) ?_
          refine lv_iadd hx hb dX2_decides_222 ?_
          refine ktop (y := nI ((8 * (km)) + 3)) (nI_add _ _) ?_
          refine lv_aload_n hx hb dX2_decides_223 rfl (lv_at hl 3 rfl) ?_
          refine m_get F hI 8 (by decide) rfl flX2_26 dX2_decides_224 ?_
          refine lv_iload_n hx hb dX2_decides_227 rfl (lv_at hl 4 rfl) ?_
          refine m_ald F hI  5 (show n < 100 by omega) rfl dX2_decides_228 ?_
          refine m_ast F hI 10 (show ((8 * (km)) + 3) < 160 by omega) rfl dX2_decides_229 (fun H locs hI => ?_)
          have hI : kI D _ A s.heap (mcp S214 10 (8 * km + 3) 5 n) H locs := hI
          generalize hS229 : mcp S214 10 (8 * km + 3) 5 n = S229 at hI
          refine lv_aload_n hx hb dX2_decides_230 rfl (lv_at hl 3 rfl) ?_
          refine m_get F hI 13 (by decide) rfl flX2_41 dX2_decides_231 ?_
          refine lv_iload hx hb dX2_decides_234 (lv_at hl 0 rfl) ?_
          refine lv_iconst (v := nI 4) hx hb dX2_decides_236 (by decide) ?_
          refine lv_iadd hx hb dX2_decides_237 ?_
          refine ktop (y := nI ((8 * (km)) + 4)) (nI_add _ _) ?_
          refine lv_iload hx hb dX2_decides_238 (lv_at hl 1 rfl) ?_
          refine m_ast F hI 10 (show ((8 * (km)) + 4) < 160 by omega) rfl dX2_decides_240 (fun H locs hI => ?_)
          have hI : kI D _ A s.heap (mset S229 10 (8 * km + 4) w.1) H locs := hI
          generalize hS240 : mset S229 10 (8 * km + 4) w.1 = S240 at hI
          refine lv_aload_n hx hb dX2_decides_241 rfl (lv_at hl 3 rfl) ?_
          refine m_get F hI 13 (by decide) rfl flX2_41 dX2_decides_242 ?_
          refine lv_iload hx hb dX2_decides_245 (lv_at hl 0 rfl) ?_
          refine lv_iconst (v := nI 5) hx hb dX2_decides_247 (by decide) ?_
          refine lv_iadd hx hb dX2_decides_248 ?_
          refine ktop (y := nI ((8 * (km)) + 5)) (nI_add _ _) ?_
          refine lv_iload_n hx hb dX2_decides_249 rfl (lv_at hl 5 rfl) ?_
          refine lv_if_eq (tgt := 257) hx hb dX2_decides_250 (by decide) (fun c250 => ?_) (fun c250 => ?_)
          ·
            refine lv_iconst (v := nI 0) hx hb dX2_decides_257 (by decide) ?_
            have ht : bI tn = nI 0 := c250
            refine m_ast F hI 10 (show 8 * km + 5 < 160 by omega) rfl dX2_decides_258 (fun H locs hI => ?_)
            exact h259 _ _ _ _ hI (by rw [← hS240, ← hS229, ← hS214, ← hS204, ← hS189]; exact hkk) (by omega) (by rw [← hfu, m_keep, if_neg c137, if_neg (show ¬ u.2.2.2 = 20 by omega), m_row, hkk, m_rowK, ht, ← hS240, ← hS229, ← hS214, ← hS204, ← hS189]) (lv_sub hl [0, 1, 2, 3, 4, 5] rfl)
          ·
            refine lv_iconst (v := nI 1) hx hb dX2_decides_253 (by decide) ?_
            refine lv_goto (tgt := 258) hx hb dX2_decides_254 (by decide) ?_
            have ht : bI tn = nI 1 := by cases tn; exact absurd rfl c250; rfl
            refine m_ast F hI 10 (show 8 * km + 5 < 160 by omega) rfl dX2_decides_258 (fun H locs hI => ?_)
            exact h259 _ _ _ _ hI (by rw [← hS240, ← hS229, ← hS214, ← hS204, ← hS189]; exact hkk) (by omega) (by rw [← hfu, m_keep, if_neg c137, if_neg (show ¬ u.2.2.2 = 20 by omega), m_row, hkk, m_rowK, ht, ← hS240, ← hS229, ← hS214, ← hS204, ← hS189]) (lv_sub hl [0, 1, 2, 3, 4, 5] rfl)
        ·
          rw [nI_eq (by omega) (by omega)] at c146
          refine lv_aload_n hx hb dX2_decides_149 rfl (lv_at hl 2 rfl) ?_
          refine m_get F hI 15 (by decide) rfl flX2_44 dX2_decides_150 ?_
          refine lv_bipush (v := nI 7) hx hb dX2_decides_153 (by decide) ?_
          refine lv_iload_n hx hb dX2_decides_155 rfl (lv_at hl 1 rfl) ?_
          refine lv_imul hx hb dX2_decides_156 ?_
          refine ktop (y := nI (7 * sh)) (pk_mul _ _) ?_
          refine lv_iconst (v := nI 3) hx hb dX2_decides_157 (by decide) ?_
          refine lv_iadd hx hb dX2_decides_158 ?_
          refine ktop (y := nI ((7 * sh) + 3)) (nI_add _ _) ?_
          refine lv_dup2_11 hx hb dX2_decides_159 rfl rfl ?_
          refine m_ald F hI  11 (show ((7 * sh) + 3) < 35 by omega) rfl dX2_decides_160 ?_
          refine lv_iload hx hb dX2_decides_161 (lv_at hl 0 rfl) ?_
          refine lv_iadd hx hb dX2_decides_163 ?_
          refine m_ast F hI 11 (show ((7 * sh) + 3) < 35 by omega) rfl dX2_decides_164 (fun H locs hI => ?_)
          refine lv_goto (tgt := 316) hx hb dX2_decides_165 (by decide) ?_
          exact kret_v F hI dX2_decides_316 (⟨rfl, by rw [← hfu, m_keep, if_neg c137, if_pos (show u.2.2.2 = 20 by omega)]; rfl⟩)
    have h104 : ∀ (u : MS) (H : Heap) (locs : List Loc) (ls : Array Slot), kI D (mw g K) A s.heap u H locs → u = madd (m_inc (m_inc (m_inc w.2 11 (7 * sh)) 12 (stp z)) 13 10) 13 11 (bI tn) → lv_has ls 8 [(5, .int (nI (stp z))), (4, .int w.1), (3, .int (nI sh)), (0, .ref (g 0)), (1, .int (nI n)), (2, .int (bI tn))] → W p l e { frames := 1, cells := 0, slots := 0, locals := 23 } s m #[.ref (g 0), .int (nI n), .int (bI tn)] below meth c H locs 0 0 (MQ below (kQ D (mty K) (mw g K) (fun v u => v = none ∧ u = m_dec st n tn) A) #[.ref (g 0), .int (nI n), .int (bI tn)] s 0 0 A) (F0 m 104 ls []) := by
      intro u H locs ls hI hu hl
      refine lv_aload_n hx hb dX2_decides_104 rfl (lv_at hl 3 rfl) ?_
      refine m_get F hI 5 (by decide) rfl flX2_17 dX2_decides_105 ?_
      refine lv_iload_n hx hb dX2_decides_108 rfl (lv_at hl 4 rfl) ?_
      refine lv_bipush (v := -9) hx hb dX2_decides_109 (by decide) ?_
      refine m_ast F hI 2 (show n < 100 by omega) rfl dX2_decides_111 (fun H locs hI => ?_)
      have hI : kI D _ A s.heap (mset u 2 n (-9)) H locs := hI
      generalize hS111 : mset u 2 n (-9) = S111 at hI
      refine lv_aload_n hx hb dX2_decides_112 rfl (lv_at hl 3 rfl) ?_
      refine m_get F hI 11 (by decide) rfl flX2_35 dX2_decides_113 ?_
      refine lv_iload_n hx hb dX2_decides_116 rfl (lv_at hl 4 rfl) ?_
      refine lv_aload_n hx hb dX2_decides_117 rfl (lv_at hl 3 rfl) ?_
      refine m_get F hI 17 (by decide) rfl flX2_50 dX2_decides_118 ?_
      refine lv_bipush (v := nI 10) hx hb dX2_decides_121 (by decide) ?_
      refine m_ald F hI  13 (show 10 < 13 by omega) rfl dX2_decides_123 ?_
      refine m_ast F hI 8 (show n < 100 by omega) rfl dX2_decides_124 (fun H locs hI => ?_)
      have hI : kI D _ A s.heap (mcp S111 8 n 13 10) H locs := hI
      generalize hS124 : mcp S111 8 n 13 10 = S124 at hI
      refine lv_aload_n hx hb dX2_decides_125 rfl (lv_at hl 3 rfl) ?_
      refine m_get F hI 12 (by decide) rfl flX2_38 dX2_decides_126 ?_
      refine lv_iload_n hx hb dX2_decides_129 rfl (lv_at hl 4 rfl) ?_
      refine lv_aload_n hx hb dX2_decides_130 rfl (lv_at hl 3 rfl) ?_
      refine m_get F hI 1 (by decide) rfl flX2_79 dX2_decides_131 ?_
      refine m_ast F hI 9 (show n < 100 by omega) rfl dX2_decides_134 (fun H locs hI => ?_)
      have hI : kI D _ A s.heap (mnw S124 9 n) H locs := hI
      generalize hS134 : mnw S124 9 n = S134 at hI
      exact h135 _ _ _ _ hI (by rw [← hS134, ← hS124, ← hS111, hu]; rfl) (by rw [hfin, m_decA, ← hS134, ← hS124, ← hS111, hu]) (lv_sub hl [1, 2, 3, 4, 5] rfl)
    have hsl := stp_lt z
    refine lv_aload_n hx hb dX2_decides_63 rfl (lv_at hl 3 rfl) ?_
    refine m_get F hI 16 (by decide) rfl flX2_47 dX2_decides_64 ?_
    refine lv_iload hx hb dX2_decides_67 (lv_at hl 0 rfl) ?_
    refine lv_dup2_11 hx hb dX2_decides_69 rfl rfl ?_
    refine m_ald F hI  12 (show (stp z) < 14 by omega) rfl dX2_decides_70 ?_
    refine lv_iconst (v := nI 1) hx hb dX2_decides_71 (by decide) ?_
    refine lv_iadd hx hb dX2_decides_72 ?_
    refine m_ast F hI 12 (show (stp z) < 14 by omega) rfl dX2_decides_73 (fun H locs hI => ?_)
    have hI : kI D _ A s.heap (m_inc (m_inc w.2 11 (7 * sh)) 12 (stp z)) H locs := hI
    generalize hS73 : m_inc (m_inc w.2 11 (7 * sh)) 12 (stp z) = S73 at hI
    refine lv_aload_n hx hb dX2_decides_74 rfl (lv_at hl 3 rfl) ?_
    refine m_get F hI 17 (by decide) rfl flX2_50 dX2_decides_75 ?_
    refine lv_bipush (v := nI 10) hx hb dX2_decides_78 (by decide) ?_
    refine lv_dup2_11 hx hb dX2_decides_80 rfl rfl ?_
    refine m_ald F hI  13 (show 10 < 13 by omega) rfl dX2_decides_81 ?_
    refine lv_iconst (v := nI 1) hx hb dX2_decides_82 (by decide) ?_
    refine lv_iadd hx hb dX2_decides_83 ?_
    refine m_ast F hI 13 (show 10 < 13 by omega) rfl dX2_decides_84 (fun H locs hI => ?_)
    have hI : kI D _ A s.heap (m_inc S73 13 10) H locs := hI
    generalize hS84 : m_inc S73 13 10 = S84 at hI
    refine lv_aload_n hx hb dX2_decides_85 rfl (lv_at hl 3 rfl) ?_
    refine m_get F hI 17 (by decide) rfl flX2_50 dX2_decides_86 ?_
    refine lv_bipush (v := nI 11) hx hb dX2_decides_89 (by decide) ?_
    refine lv_dup2_11 hx hb dX2_decides_91 rfl rfl ?_
    refine m_ald F hI  13 (show 11 < 13 by omega) rfl dX2_decides_92 ?_
    refine lv_iload_n hx hb dX2_decides_93 rfl (lv_at hl 5 rfl) ?_
    refine lv_if_eq (tgt := 101) hx hb dX2_decides_94 (by decide) (fun c94 => ?_) (fun c94 => ?_)
    ·
      refine lv_iconst (v := nI 0) hx hb dX2_decides_101 (by decide) ?_
      have ht : nI 0 = bI tn := c94.symm
      refine lv_iadd hx hb dX2_decides_102 ?_
      refine m_ast F hI 13 (show 11 < 13 by omega) rfl dX2_decides_103 (fun H locs hI => ?_)
      exact h104 _ _ _ _ hI (by rw [← hS84, ← hS73, ht]; rfl) (lv_sub hl [0, 1, 2, 3, 4, 5] rfl)
    ·
      refine lv_iconst (v := nI 1) hx hb dX2_decides_97 (by decide) ?_
      refine lv_goto (tgt := 102) hx hb dX2_decides_98 (by decide) ?_
      have ht : nI 1 = bI tn := by cases tn; exact absurd rfl c94; rfl
      refine lv_iadd hx hb dX2_decides_102 ?_
      refine m_ast F hI 13 (show 11 < 13 by omega) rfl dX2_decides_103 (fun H locs hI => ?_)
      exact h104 _ _ _ _ hI (by rw [← hS84, ← hS73, ht]; rfl) (lv_sub hl [0, 1, 2, 3, 4, 5] rfl)
  refine lv_aload_n hx hb dX2_decides_0 rfl (lv_at hl 0 rfl) ?_
  refine m_get F hI 7 (by decide) rfl flX2_23 dX2_decides_1 ?_
  refine lv_iload_n hx hb dX2_decides_4 rfl (lv_at hl 1 rfl) ?_
  refine m_ald F hI  4 (show n < 100 by omega) rfl dX2_decides_5 ?_
  refine ktop (y := nI (sh)) (by exact h4) ?_
  refine lv_istore_n (lv' := [(3, .int _), (0, .ref _), (1, .int _), (2, .int _)]) hx hb dX2_decides_6 rfl hl (by decide) rfl (fun ls hl => ?_)
  refine lv_aload_n hx hb dX2_decides_7 rfl (lv_at hl 1 rfl) ?_
  refine lv_iload_n hx hb dX2_decides_8 rfl (lv_at hl 0 rfl) ?_
  refine lv_aload_n hx hb dX2_decides_9 rfl (lv_at hl 1 rfl) ?_
  refine m_get F hI 8 (by decide) rfl flX2_26 dX2_decides_10 ?_
  refine lv_iload_n hx hb dX2_decides_13 rfl (lv_at hl 2 rfl) ?_
  refine m_ald F hI  5 (show n < 100 by omega) rfl dX2_decides_14 ?_
  refine ktop (y := nI (z)) (by exact h5) ?_
  refine lv_iload_n hx hb dX2_decides_15 rfl (lv_at hl 3 rfl) ?_
  refine kcallV (rest := []) F hA hI (mc_weightOf l _ sh hs (nI z) tn) kgX2_75 (m_rec F hI) hl.1 rfl rfl (Nat.le_of_ble_eq_true rfl) dX2_decides_16 ⟨Nat.le_of_ble_eq_true rfl, Nat.le_of_ble_eq_true rfl⟩ ⟨Nat.le_of_ble_eq_true rfl, Nat.le_of_ble_eq_true rfl⟩ (fun vq uq H locs hp hI => ?_)
  obtain ⟨rfl, hu⟩ := hp
  rw [hu, hw] at hI
  rw [hw]
  clear hu
  refine kstk (b := .int _ :: []) rfl ?_
  refine lv_istore (lv' := [(4, .int _), (3, .int _), (0, .ref _), (1, .int _), (2, .int _)]) hx hb dX2_decides_19 hl (by decide) rfl (fun ls hl => ?_)
  refine lv_aload_n hx hb dX2_decides_21 rfl (lv_at hl 2 rfl) ?_
  refine m_get F hI 15 (by decide) rfl flX2_44 dX2_decides_22 ?_
  refine lv_bipush (v := nI 7) hx hb dX2_decides_25 (by decide) ?_
  refine lv_iload_n hx hb dX2_decides_27 rfl (lv_at hl 1 rfl) ?_
  refine lv_imul hx hb dX2_decides_28 ?_
  refine ktop (y := nI (7 * (sh))) (pk_mul _ _) ?_
  refine lv_dup2_11 hx hb dX2_decides_29 rfl rfl ?_
  refine m_ald F hI  11 (show (7 * (sh)) < 35 by omega) rfl dX2_decides_30 ?_
  refine lv_iconst (v := nI 1) hx hb dX2_decides_31 (by decide) ?_
  refine lv_iadd hx hb dX2_decides_32 ?_
  refine m_ast F hI 11 (show (7 * (sh)) < 35 by omega) rfl dX2_decides_33 (fun H locs hI => ?_)
  refine lv_iconst (v := nI 0) hx hb dX2_decides_34 (by decide) ?_
  refine lv_istore (lv' := [(5, .int _), (4, .int _), (3, .int _), (0, .ref _), (1, .int _), (2, .int _)]) hx hb dX2_decides_35 hl (by decide) rfl (fun ls hl => ?_)
  refine lv_iconst (v := nI 1) hx hb dX2_decides_37 (by decide) ?_
  refine lv_istore (lv' := [(6, .int _), (5, .int _), (4, .int _), (3, .int _), (0, .ref _), (1, .int _), (2, .int _)]) hx hb dX2_decides_38 hl (by decide) rfl (fun ls hl => ?_)
  refine wloop (σ := Nat × Nat) (fun x => x.1) (fun x H locs ls => x.2 + x.1 = 13 ∧ stpL z x.1 x.2 = stp z ∧ kI D (mw g K) A s.heap (m_inc w.2 11 (7 * sh)) H locs ∧ lv_has ls 8 [(6, .int (nI (2 ^ x.2))), (5, .int (nI x.2)), (4, .int w.1), (3, .int (nI sh)), (0, .ref (g 0)), (1, .int (nI n)), (2, .int (bI tn))]) ?_ (13, 0) _ _ _ ⟨rfl, rfl, hI, lv_sub hl [0, 1, 2, 3, 4, 5, 6] rfl⟩
  rintro ⟨f, j⟩ H locs ls ⟨hk, he, hI, hl⟩ ih
  dsimp only at hk he hI hl ih
  have h2j : 2 ^ j ≤ 8192 := Nat.pow_le_pow_right (n := 2) (by decide) (show j ≤ 13 by omega)
  refine lv_aload_n hx hb dX2_decides_40 rfl (lv_at hl 4 rfl) ?_
  refine m_get F hI 8 (by decide) rfl flX2_26 dX2_decides_41 ?_
  refine lv_iload_n hx hb dX2_decides_44 rfl (lv_at hl 5 rfl) ?_
  refine m_ald F hI  5 (show n < 100 by omega) rfl dX2_decides_45 ?_
  refine ktop (y := nI (z)) (by exact hw5) ?_
  refine lv_iload hx hb dX2_decides_46 (lv_at hl 0 rfl) ?_
  refine lv_icmp_lt (tgt := 63) hx hb dX2_decides_48 (by decide) (fun c48 => ?_) (fun c48 => ?_)
  ·
    rw [nI_ltI (by omega) (by omega)] at c48
    have hj : j = stp z := by
      rw [← he]
      cases f with
      | zero => rfl
      | succ f => simp [stpL, c48]
    rw [hj] at hl
    exact h63 _ _ _ hI (lv_sub hl [1, 2, 3, 4, 5, 6] rfl)
  ·
    rw [nI_ltI (by omega) (by omega)] at c48
    obtain ⟨f, rfl⟩ : ∃ f', f = f' + 1 := by
      cases f with
      | zero =>
        exfalso
        have hj : j = 13 := by omega
        rw [hj] at c48
        exact c48 (by omega)
      | succ f => exact ⟨f, rfl⟩
    refine lv_iinc (v := nI (j + 1)) (lv' := [(5, .int _), (6, .int _), (4, .int _), (3, .int _), (0, .ref _), (1, .int _), (2, .int _)]) hx hb dX2_decides_51 hl (k := 1) rfl (kinc _ 1) (by decide) rfl (fun ls hl => ?_)
    refine lv_iload hx hb dX2_decides_54 (lv_at hl 1 rfl) ?_
    refine lv_iconst (v := nI 2) hx hb dX2_decides_56 (by decide) ?_
    refine lv_imul hx hb dX2_decides_57 ?_
    refine ktop (y := nI ((2 ^ j) * 2)) (pk_mul _ _) ?_
    refine lv_istore (lv' := [(6, .int _), (5, .int _), (4, .int _), (3, .int _), (0, .ref _), (1, .int _), (2, .int _)]) hx hb dX2_decides_58 hl (by decide) rfl (fun ls hl => ?_)
    refine lv_goto (tgt := 40) hx hb dX2_decides_60 (by decide) ?_
    exact ih (f, j + 1) _ _ _ (by show f < f + 1; omega) ⟨by show j + 1 + f = _; omega, by rw [← he]; simp [stpL, c48], hI, lv_sub hl [0, 1, 2, 3, 4, 5, 6] rfl⟩
end MC3
