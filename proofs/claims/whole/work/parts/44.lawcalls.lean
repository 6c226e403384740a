/-! THE LAW'S CALLS -/
abbrev lvL (B : Bk) (sb i : Nat) : List (Option Value) := [some (.ref sb), some (.ref (B.1 17)), some (.ref (B.1 0)), some (.int (nI i))]
def SX (E : EE) (B : Bk) (sb L : Nat) (xs : Nat → Int32) : Prop := va_X sb L xs E.1.2.2.2.2 E.1.2.2.2.2.heap ∧ sb < E.1.2.2.2.2.heap.size ∧ ¬ fA B sb
theorem iN_lt (y : Int32) : iN y < 2 ^ 32 := y.toBitVec.isLt
def jN (z : Int64) : Nat := z.toBitVec.toNat
theorem jN_lt (z : Int64) : jN z < 2 ^ 64 := z.toBitVec.isLt
theorem lN_jN (z : Int64) : lN (jN z) = z := by
  apply Int64.toBitVec_inj.1
  apply BitVec.eq_of_toNat_eq
  show (BitVec.ofNat 64 z.toBitVec.toNat).toNat = z.toBitVec.toNat
  rw [BitVec.toNat_ofNat, Nat.mod_eq_of_lt z.toBitVec.isLt]
theorem cmp_self (x : Int64) : lg_cmp x x = 0 := Int32.le_antisymm ((lg_cmp_le x x).mpr (Int64.le_refl x)) ((lg_cmp_ge x x).mpr (Int64.le_refl x))
section LR
variable {E : EE} {B : Bk} {own : String} {cc : ByteArray} {nL d : Nat} {Q : State → Prop} {pc : Nat} {lv : List (Option Value)} {st : List Value} {σ : St}
theorem V_sld {sb L i : Nat} {xs : Nat → Int32} (hX : SX E B sb L xs) (hi : i < L) (hL : L < 2 ^ 31) (hd : decode cc pc = .ok (.iaload, 1)) (k : V E B own cc nL d Q (pc + 1) lv (.int (nI (iN (xs i))) :: st) σ) : V E B own cc nL d Q pc lv (.int (nI i) :: .ref sb :: st) σ := fun ok H locs ls hI hl => by
  have k1 := k ok H locs ls hI hl
  rw [nI_iN] at k1
  refine va_sld ok.1 ok.2.1 hX.1 hX.2.1 hX.2.2 hI.2 (nI_in hi hL) hd ?_
  rw [nI_clamp (by omega)]
  exact k1
theorem V_slen {sb L : Nat} {xs : Nat → Int32} (hX : SX E B sb L xs) (hd : decode cc pc = .ok (.arraylength, 1)) (k : V E B own cc nL d Q (pc + 1) lv (.int (nI L) :: st) σ) : V E B own cc nL d Q pc lv (.ref sb :: st) σ := fun ok H locs ls hI hl => va_slen ok.1 ok.2.1 hX.1 hX.2.1 hX.2.2 hI.2 hd (k ok H locs ls hI hl)
theorem V_bool {a : Nat} {off off2 : Int} (t1 t2 : Nat) (d0 : decode cc pc = .ok (.ifCond .eq off, 3)) (ht : (pc : Int) + off = (t1 : Int)) (d1 : decode cc (pc + 3) = .ok (.iconst 1, 1)) (d2 : decode cc (pc + 3 + 1) = .ok (.goto off2, 3)) (ht2 : ((pc + 3 + 1 : Nat) : Int) + off2 = (t2 : Int)) (d3 : decode cc t1 = .ok (.iconst 0, 1)) (he : t1 + 1 = t2) (ha : a < 2 ^ 32) (k : V E B own cc nL d Q t2 lv (.int (nI (if a = 0 then 0 else 1)) :: st) σ) : V E B own cc nL d Q pc lv (.int (nI a) :: st) σ := by
  refine V_if_eq t1 d0 ht ha (fun h => ?_) (fun h => ?_)
  · rw [if_pos h] at k
    subst he
    exact V_iconst 0 d3 (by decide) k
  · rw [if_neg h] at k
    exact V_iconst 1 d1 (by decide) (V_goto t2 d2 ht2 k)
theorem V_lorN {x y : Int64} (hd : decode cc pc = .ok (.lor, 1)) (k : V E B own cc nL d Q (pc + 1) lv (.long (lN (jN (x ||| y))) :: st) σ) : V E B own cc nL d Q pc lv (.long y :: .long x :: st) σ := V_lor hd (by rw [lN_jN] at k; exact k)
theorem up_lt (a : Nat) : (if a = 0 then 0 else 1 : Nat) < 2 := by split <;> decide
end LR
section LO
variable {σ : St}
theorem lo_write (x : Nat) : ∀ j, j < 17 → (wrX σ x).2 j = σ j := by
  intro j h
  unfold wrX
  (repeat' split) <;> first | rfl | (dsimp only; repeat first | rw [pt_o (by omega)] | rw [stX_o (by omega) (by omega) (by omega)] | rw [rmX_o (by omega) (by omega)])
theorem lo_wipe  : ∀ j, j < 17 → (wiX σ ).2 j = σ j := by
  intro j h
  unfold wiX
  (repeat' split) <;> first | rfl | (dsimp only; repeat first | rw [pt_o (by omega)] | rw [stX_o (by omega) (by omega) (by omega)] | rw [rmX_o (by omega) (by omega)])
theorem lo_forget  : ∀ j, j < 17 → (foX σ ).2 j = σ j := by
  intro j h
  unfold foX
  (repeat' split) <;> first | rfl | (dsimp only; repeat first | rw [pt_o (by omega)] | rw [stX_o (by omega) (by omega) (by omega)] | rw [rmX_o (by omega) (by omega)])
theorem lo_day  : ∀ j, j < 17 → (dyX σ ).2 j = σ j := by
  intro j h
  unfold dyX
  (repeat' split) <;> first | rfl | (dsimp only; repeat first | rw [pt_o (by omega)] | rw [stX_o (by omega) (by omega) (by omega)] | rw [rmX_o (by omega) (by omega)])
theorem lo_set (c x : Nat) : ∀ j, j < 17 → (seX σ c x).2 j = σ j := by
  intro j h
  unfold seX
  (repeat' split) <;> first | rfl | (dsimp only; repeat first | rw [pt_o (by omega)] | rw [stX_o (by omega) (by omega) (by omega)] | rw [rmX_o (by omega) (by omega)])
theorem lo_moor (c : Nat) : ∀ j, j < 17 → (moX σ c).2 j = σ j := by
  intro j h
  unfold moX
  (repeat' split) <;> first | rfl | (dsimp only; repeat first | rw [pt_o (by omega)] | rw [stX_o (by omega) (by omega) (by omega)] | rw [rmX_o (by omega) (by omega)])
theorem lo_put (c : Nat) : ∀ j, j < 17 → (puX σ c).2 j = σ j := by
  intro j h
  unfold puX
  (repeat' split) <;> first | rfl | (dsimp only; repeat first | rw [pt_o (by omega)] | rw [stX_o (by omega) (by omega) (by omega)] | rw [rmX_o (by omega) (by omega)])
theorem lo_undo  : ∀ j, j < 17 → (unX σ ).2 j = σ j := by
  intro j h
  unfold unX
  (repeat' split) <;> first | rfl | (dsimp only; unfold tbX tb0; repeat first | rw [pt_o (by omega)] | rw [stX_o (by omega) (by omega) (by omega)] | rw [rmX_o (by omega) (by omega)])
theorem lo_knew (s n v : Nat) : ∀ j, j < 17 → (kwX σ s n v).2 j = σ j := by
  intro j h
  unfold kwX
  (repeat' split) <;> first | rfl | (dsimp only; repeat first | rw [pt_o (by omega)] | rw [stX_o (by omega) (by omega) (by omega)] | rw [rmX_o (by omega) (by omega)])
theorem lo_keep (s : Nat) : ∀ j, j < 17 → (keX σ s).2 j = σ j := by
  intro j h
  unfold keX
  (repeat' split) <;> first | rfl | (dsimp only; repeat first | rw [pt_o (by omega)] | rw [stX_o (by omega) (by omega) (by omega)] | rw [rmX_o (by omega) (by omega)])
theorem lo_again (s : Nat) : ∀ j, j < 17 → (agX σ s).2 j = σ j := by
  intro j h
  unfold agX
  (repeat' split) <;> first | rfl | (dsimp only; repeat first | rw [pt_o (by omega)] | rw [stX_o (by omega) (by omega) (by omega)] | rw [rmX_o (by omega) (by omega)])
end LO
section LC
variable {E : EE} {B : Bk} {Q : State → Prop} {σ : St} {sb L i k : Nat} {xs : Nat → Int32}
set_option maxHeartbeats 2000000 in
theorem lc_write (hX : SX E B sb L xs) (hL : L < 2 ^ 31) (h7 : i + 7 ≤ L) (g : SIM k σ) (hk : k ≤ 2 ^ 20) (J : ∀ w, SIM (k + 1) w → V E B RL cL_law 4 20 Q 1086 (lvL B sb i) [] w) : V E B RL cL_law 4 20 Q 164 (lvL B sb i) [] σ := by
  obtain ⟨gx, ty, om, h48, n1, n2, k4, s64, l48, m6⟩ := g.cls hk
  refine V_aload_n (pc := 164) dL_law_164 rfl ?_
  refine V_aload_n (pc := 165) dL_law_165 rfl ?_
  refine V_iload_n (pc := 166) dL_law_166 rfl ?_
  refine V_iconst (pc := 167) 1 dL_law_167 (by decide) ?_
  refine V_iadd (pc := 168) dL_law_168 ?_
  refine V_sld (pc := 169) hX (by omega) hL dL_law_169 ?_
  refine V_callV_I (x := (wrX σ (iN (xs (i + 1)))).1) (τ := (wrX σ (iN (xs (i + 1)))).2) (pc := 170) (k := 17) (ci := 4) (m := 0) ff_X4_write ml_L_13 (by decide +kernel) rfl rfl (c_X4_write (iN_lt _)  l48) dL_law_170 rfl rfl (by decide) (by decide) (Nat.le_of_ble_eq_true rfl) ?_
  obtain ⟨-, -, gm, ow, tz, u22, u21, u15, u28⟩ := g.mdl hk (lo_write (iN (xs (i + 1))))
  refine V_aload_n (pc := 173) dL_law_173 rfl ?_
  refine V_aload_n (pc := 174) dL_law_174 rfl ?_
  refine V_iload_n (pc := 175) dL_law_175 rfl ?_
  refine V_iconst (pc := 176) 1 dL_law_176 (by decide) ?_
  refine V_iadd (pc := 177) dL_law_177 ?_
  refine V_sld (pc := 178) hX (by omega) hL dL_law_178 ?_
  refine V_callV_I (x := (wrM (wrX σ (iN (xs (i + 1)))).2 (iN (xs (i + 1)))).1) (τ := (wrM (wrX σ (iN (xs (i + 1)))).2 (iN (xs (i + 1)))).2) (pc := 179) (k := 0) (ci := 5) (m := 0) ff_X5_write ml_L_17 (by decide +kernel) rfl rfl (c_X5_write (iN_lt _)  tz.1) dL_law_179 rfl rfl (by decide) (by decide) (Nat.le_of_ble_eq_true rfl) ?_
  have hz := st_write g (iN (xs (i + 1)))
  exact V_icmpR_eq (pc := 182) 1086 dL_law_182 (by decide) (fun _ => J _ hz.2) (fun h => absurd (congrArg nI hz.1) h)
set_option maxHeartbeats 2000000 in
theorem lc_wipe (hX : SX E B sb L xs) (hL : L < 2 ^ 31) (h7 : i + 7 ≤ L) (g : SIM k σ) (hk : k ≤ 2 ^ 20) (J : ∀ w, SIM (k + 1) w → V E B RL cL_law 4 20 Q 1086 (lvL B sb i) [] w) : V E B RL cL_law 4 20 Q 187 (lvL B sb i) [] σ := by
  obtain ⟨gx, ty, om, h48, n1, n2, k4, s64, l48, m6⟩ := g.cls hk
  refine V_aload_n (pc := 187) dL_law_187 rfl ?_
  refine V_callV_I (x := (wiX σ ).1) (τ := (wiX σ ).2) (pc := 188) (k := 17) (ci := 4) (m := 0) ff_X4_wipe ml_L_18 (by decide +kernel) rfl rfl (c_X4_wipe  ) dL_law_188 rfl rfl (by decide) (by decide) (Nat.le_of_ble_eq_true rfl) ?_
  refine V_aload_n (pc := 191) dL_law_191 rfl ?_
  refine V_callV_I (x := (wiM (wiX σ ).2 ).1) (τ := (wiM (wiX σ ).2 ).2) (pc := 192) (k := 0) (ci := 5) (m := 0) ff_X5_wipe ml_L_22 (by decide +kernel) rfl rfl (c_X5_wipe  ) dL_law_192 rfl rfl (by decide) (by decide) (Nat.le_of_ble_eq_true rfl) ?_
  have hz := st_wipe g 
  exact V_icmpR_eq (pc := 195) 1086 dL_law_195 (by decide) (fun _ => J _ hz.2) (fun h => absurd (congrArg nI hz.1) h)
set_option maxHeartbeats 2000000 in
theorem lc_fault (hX : SX E B sb L xs) (hL : L < 2 ^ 31) (h7 : i + 7 ≤ L) (g : SIM k σ) (hk : k ≤ 2 ^ 20) (J : ∀ w, SIM (k + 1) w → V E B RL cL_law 4 20 Q 1086 (lvL B sb i) [] w) : V E B RL cL_law 4 20 Q 200 (lvL B sb i) [] σ := by
  obtain ⟨gx, ty, om, h48, n1, n2, k4, s64, l48, m6⟩ := g.cls hk
  refine V_aload_n (pc := 200) dL_law_200 rfl ?_
  refine V_callV_rI (pc := 201) (k := 17) (ci := 4) (m := 0) ff_X4_fault ml_L_23 (by decide +kernel) rfl rfl (c_X4_fault  ty) dL_law_201 rfl rfl (by decide) (by decide) (Nat.le_of_ble_eq_true rfl) (fun u hu => ?_)
  have d8 := (kd3' g.2.1.2.1).2.2.2.2.2.2.2
  have hlo : ∀ j, j < 17 → u j = σ j := fun j h => hu j (by omega)
  obtain ⟨-, -, gm, ow, tz, u22, u21, u15, u28⟩ := g.mdl hk hlo
  refine V_aload_n (pc := 204) dL_law_204 rfl ?_
  refine V_callV_rI (pc := 205) (k := 0) (ci := 5) (m := 0) ff_X5_fault ml_L_26 (by decide +kernel) rfl rfl (c_X5_fault  tz) dL_law_205 rfl rfl (by decide) (by decide) (Nat.le_of_ble_eq_true rfl) (fun w hw => ?_)
  exact V_icmpR_eq (pc := 208) 1086 dL_law_208 (by decide) (fun _ => J _ (SIM_f g hu hw)) (fun h => absurd (congrArg nI (st_fault g hu)) h)
set_option maxHeartbeats 2000000 in
theorem lc_coast (hX : SX E B sb L xs) (hL : L < 2 ^ 31) (h7 : i + 7 ≤ L) (g : SIM k σ) (hk : k ≤ 2 ^ 20) (J : ∀ w, SIM (k + 1) w → V E B RL cL_law 4 20 Q 1086 (lvL B sb i) [] w) : V E B RL cL_law 4 20 Q 213 (lvL B sb i) [] σ := by
  obtain ⟨gx, ty, om, h48, n1, n2, k4, s64, l48, m6⟩ := g.cls hk
  refine V_aload_n (pc := 213) dL_law_213 rfl ?_
  refine V_callV (pc := 214) (k := 17) (ci := 4) (m := 0) ff_X4_coast ml_L_27 (by decide +kernel) rfl rfl (c_X4_coast  ty) dL_law_214 rfl rfl (by decide) (by decide) (Nat.le_of_ble_eq_true rfl) (fun v u hu => ?_)
  have d8 := (kd3' g.2.1.2.1).2.2.2.2.2.2.2
  have hlo : ∀ j, j < 17 → u j = σ j := by
    intro j h
    rcases hu with ⟨-, -, u0, h3, -, -, h6⟩ | ⟨-, -, h3⟩
    · rw [h6]
      unfold cxW
      rw [pt_o (by omega), pt_o (by omega), stX_o (by omega) (by omega) (by omega), pt_o (by omega), pt_o (by omega), h3 j (by omega)]
    · exact h3 j (by omega)
  obtain ⟨x, hx⟩ : ∃ x : Int32, v = some (.int x) := by rcases hu with ⟨-, h2, -⟩ | ⟨-, h2, -⟩ <;> exact ⟨_, h2⟩
  subst hx
  rw [Option.toList_some, List.singleton_append]
  obtain ⟨-, -, gm, ow, tz, u22, u21, u15, u28⟩ := g.mdl hk hlo
  refine V_aload_n (pc := 217) dL_law_217 rfl ?_
  refine V_callV (pc := 218) (k := 0) (ci := 5) (m := 0) ff_X5_coast ml_L_30 (by decide +kernel) rfl rfl (c_X5_coast  tz) dL_law_218 rfl rfl (by decide) (by decide) (Nat.le_of_ble_eq_true rfl) (fun v2 w hw => ?_)
  obtain ⟨x2, hx2⟩ : ∃ x : Int32, v2 = some (.int x) := by rcases hw with ⟨-, h2, -⟩ | ⟨-, h2, -⟩ <;> exact ⟨_, h2⟩
  subst hx2
  rw [Option.toList_some, List.singleton_append]
  have hz := st_coast g hu hw
  exact V_icmpR_eq (pc := 221) 1086 dL_law_221 (by decide) (fun _ => J _ hz.2) (fun h => absurd (by have h9 := hz.1; cases h9; rfl) h)
set_option maxHeartbeats 2000000 in
theorem lc_ground (hX : SX E B sb L xs) (hL : L < 2 ^ 31) (h7 : i + 7 ≤ L) (g : SIM k σ) (hk : k ≤ 2 ^ 20) (J : ∀ w, SIM (k + 1) w → V E B RL cL_law 4 20 Q 1086 (lvL B sb i) [] w) : V E B RL cL_law 4 20 Q 226 (lvL B sb i) [] σ := by
  obtain ⟨gx, ty, om, h48, n1, n2, k4, s64, l48, m6⟩ := g.cls hk
  refine V_aload_n (pc := 226) dL_law_226 rfl ?_
  refine V_aload_n (pc := 227) dL_law_227 rfl ?_
  refine V_iload_n (pc := 228) dL_law_228 rfl ?_
  refine V_iconst (pc := 229) 1 dL_law_229 (by decide) ?_
  refine V_iadd (pc := 230) dL_law_230 ?_
  refine V_sld (pc := 231) hX (by omega) hL dL_law_231 ?_
  refine V_aload_n (pc := 232) dL_law_232 rfl ?_
  refine V_iload_n (pc := 233) dL_law_233 rfl ?_
  refine V_iconst (pc := 234) 2 dL_law_234 (by decide) ?_
  refine V_iadd (pc := 235) dL_law_235 ?_
  refine V_sld (pc := 236) hX (by omega) hL dL_law_236 ?_
  refine V_callV_I (pc := 237) (k := 17) (ci := 4) (m := 0) ff_X4_ground ml_L_31 (by decide +kernel) rfl rfl (c_X4_ground (iN_lt _) (iN_lt _)  gx) dL_law_237 rfl rfl (by decide) (by decide) (Nat.le_of_ble_eq_true rfl) ?_
  obtain ⟨-, -, gm, ow, tz, u22, u21, u15, u28⟩ := g.mdl hk (u := σ) (fun _ _ => rfl)
  refine V_aload_n (pc := 240) dL_law_240 rfl ?_
  refine V_aload_n (pc := 241) dL_law_241 rfl ?_
  refine V_iload_n (pc := 242) dL_law_242 rfl ?_
  refine V_iconst (pc := 243) 1 dL_law_243 (by decide) ?_
  refine V_iadd (pc := 244) dL_law_244 ?_
  refine V_sld (pc := 245) hX (by omega) hL dL_law_245 ?_
  refine V_aload_n (pc := 246) dL_law_246 rfl ?_
  refine V_iload_n (pc := 247) dL_law_247 rfl ?_
  refine V_iconst (pc := 248) 2 dL_law_248 (by decide) ?_
  refine V_iadd (pc := 249) dL_law_249 ?_
  refine V_sld (pc := 250) hX (by omega) hL dL_law_250 ?_
  refine V_callV_I (pc := 251) (k := 0) (ci := 5) (m := 0) ff_X5_ground ml_L_35 (by decide +kernel) rfl rfl (c_X5_ground (iN_lt _) (iN_lt _)  gm.1 gm.2.2.1) dL_law_251 rfl rfl (by decide) (by decide) (Nat.le_of_ble_eq_true rfl) ?_
  exact V_icmpR_eq (pc := 254) 1086 dL_law_254 (by decide) (fun _ => J _ (g.mono (Nat.le_succ k))) (fun h => absurd (congrArg nI (st_ground g (iN (xs (i + 1))) (iN (xs (i + 2))))) h)
set_option maxHeartbeats 2000000 in
theorem lc_child (hX : SX E B sb L xs) (hL : L < 2 ^ 31) (h7 : i + 7 ≤ L) (g : SIM k σ) (hk : k ≤ 2 ^ 20) (J : ∀ w, SIM (k + 1) w → V E B RL cL_law 4 20 Q 1086 (lvL B sb i) [] w) : V E B RL cL_law 4 20 Q 259 (lvL B sb i) [] σ := by
  obtain ⟨gx, ty, om, h48, n1, n2, k4, s64, l48, m6⟩ := g.cls hk
  refine V_aload_n (pc := 259) dL_law_259 rfl ?_
  refine V_aload_n (pc := 260) dL_law_260 rfl ?_
  refine V_iload_n (pc := 261) dL_law_261 rfl ?_
  refine V_iconst (pc := 262) 1 dL_law_262 (by decide) ?_
  refine V_iadd (pc := 263) dL_law_263 ?_
  refine V_sld (pc := 264) hX (by omega) hL dL_law_264 ?_
  refine V_aload_n (pc := 265) dL_law_265 rfl ?_
  refine V_iload_n (pc := 266) dL_law_266 rfl ?_
  refine V_iconst (pc := 267) 2 dL_law_267 (by decide) ?_
  refine V_iadd (pc := 268) dL_law_268 ?_
  refine V_sld (pc := 269) hX (by omega) hL dL_law_269 ?_
  refine V_callV_I (pc := 270) (k := 17) (ci := 4) (m := 0) ff_X4_child ml_L_36 (by decide +kernel) rfl rfl (c_X4_child (iN_lt _) (iN_lt _)  gx) dL_law_270 rfl rfl (by decide) (by decide) (Nat.le_of_ble_eq_true rfl) ?_
  obtain ⟨-, -, gm, ow, tz, u22, u21, u15, u28⟩ := g.mdl hk (u := σ) (fun _ _ => rfl)
  refine V_aload_n (pc := 273) dL_law_273 rfl ?_
  refine V_aload_n (pc := 274) dL_law_274 rfl ?_
  refine V_iload_n (pc := 275) dL_law_275 rfl ?_
  refine V_iconst (pc := 276) 1 dL_law_276 (by decide) ?_
  refine V_iadd (pc := 277) dL_law_277 ?_
  refine V_sld (pc := 278) hX (by omega) hL dL_law_278 ?_
  refine V_aload_n (pc := 279) dL_law_279 rfl ?_
  refine V_iload_n (pc := 280) dL_law_280 rfl ?_
  refine V_iconst (pc := 281) 2 dL_law_281 (by decide) ?_
  refine V_iadd (pc := 282) dL_law_282 ?_
  refine V_sld (pc := 283) hX (by omega) hL dL_law_283 ?_
  refine V_callV_I (pc := 284) (k := 0) (ci := 5) (m := 0) ff_X5_child ml_L_39 (by decide +kernel) rfl rfl (c_X5_child (iN_lt _) (iN_lt _)  gm.1 (by rw [gm.2.1]; decide) gm.2.2.1) dL_law_284 rfl rfl (by decide) (by decide) (Nat.le_of_ble_eq_true rfl) ?_
  exact V_icmpR_eq (pc := 287) 1086 dL_law_287 (by decide) (fun _ => J _ (g.mono (Nat.le_succ k))) (fun h => absurd (congrArg nI (st_child g (iN (xs (i + 1))) (iN (xs (i + 2))))) h)
set_option maxHeartbeats 2000000 in
theorem lc_knows (hX : SX E B sb L xs) (hL : L < 2 ^ 31) (h7 : i + 7 ≤ L) (g : SIM k σ) (hk : k ≤ 2 ^ 20) (J : ∀ w, SIM (k + 1) w → V E B RL cL_law 4 20 Q 1086 (lvL B sb i) [] w) : V E B RL cL_law 4 20 Q 292 (lvL B sb i) [] σ := by
  obtain ⟨gx, ty, om, h48, n1, n2, k4, s64, l48, m6⟩ := g.cls hk
  refine V_aload_n (pc := 292) dL_law_292 rfl ?_
  refine V_aload_n (pc := 293) dL_law_293 rfl ?_
  refine V_iload_n (pc := 294) dL_law_294 rfl ?_
  refine V_iconst (pc := 295) 1 dL_law_295 (by decide) ?_
  refine V_iadd (pc := 296) dL_law_296 ?_
  refine V_sld (pc := 297) hX (by omega) hL dL_law_297 ?_
  refine V_aload_n (pc := 298) dL_law_298 rfl ?_
  refine V_iload_n (pc := 299) dL_law_299 rfl ?_
  refine V_iconst (pc := 300) 2 dL_law_300 (by decide) ?_
  refine V_iadd (pc := 301) dL_law_301 ?_
  refine V_sld (pc := 302) hX (by omega) hL dL_law_302 ?_
  refine V_callV_I (pc := 303) (k := 17) (ci := 4) (m := 0) ff_X4_knows ml_L_40 (by decide +kernel) rfl rfl (c_X4_knows (iN_lt _) (iN_lt _)  gx) dL_law_303 rfl rfl (by decide) (by decide) (Nat.le_of_ble_eq_true rfl) ?_
  obtain ⟨-, -, gm, ow, tz, u22, u21, u15, u28⟩ := g.mdl hk (u := σ) (fun _ _ => rfl)
  refine V_aload_n (pc := 306) dL_law_306 rfl ?_
  refine V_aload_n (pc := 307) dL_law_307 rfl ?_
  refine V_iload_n (pc := 308) dL_law_308 rfl ?_
  refine V_iconst (pc := 309) 1 dL_law_309 (by decide) ?_
  refine V_iadd (pc := 310) dL_law_310 ?_
  refine V_sld (pc := 311) hX (by omega) hL dL_law_311 ?_
  refine V_aload_n (pc := 312) dL_law_312 rfl ?_
  refine V_iload_n (pc := 313) dL_law_313 rfl ?_
  refine V_iconst (pc := 314) 2 dL_law_314 (by decide) ?_
  refine V_iadd (pc := 315) dL_law_315 ?_
  refine V_sld (pc := 316) hX (by omega) hL dL_law_316 ?_
  refine V_callV_I (pc := 317) (k := 0) (ci := 5) (m := 0) ff_X5_knows ml_L_43 (by decide +kernel) rfl rfl (c_X5_knows (iN_lt _) (iN_lt _)  gm.1.2.2.1) dL_law_317 rfl rfl (by decide) (by decide) (Nat.le_of_ble_eq_true rfl) ?_
  exact V_icmpR_eq (pc := 320) 1086 dL_law_320 (by decide) (fun _ => J _ (g.mono (Nat.le_succ k))) (fun h => absurd (congrArg nI (st_knows g (iN (xs (i + 1))) (iN (xs (i + 2))))) h)
set_option maxHeartbeats 2000000 in
theorem lc_day (hX : SX E B sb L xs) (hL : L < 2 ^ 31) (h7 : i + 7 ≤ L) (g : SIM k σ) (hk : k ≤ 2 ^ 20) (J : ∀ w, SIM (k + 1) w → V E B RL cL_law 4 20 Q 1086 (lvL B sb i) [] w) : V E B RL cL_law 4 20 Q 325 (lvL B sb i) [] σ := by
  obtain ⟨gx, ty, om, h48, n1, n2, k4, s64, l48, m6⟩ := g.cls hk
  refine V_aload_n (pc := 325) dL_law_325 rfl ?_
  refine V_callV_I (x := (dyX σ ).1) (τ := (dyX σ ).2) (pc := 326) (k := 17) (ci := 4) (m := 0) ff_X4_day ml_L_44 (by decide +kernel) rfl rfl (c_X4_day  gx n1 n2) dL_law_326 rfl rfl (by decide) (by decide) (Nat.le_of_ble_eq_true rfl) ?_
  obtain ⟨-, -, gm, ow, tz, u22, u21, u15, u28⟩ := g.mdl hk (lo_day )
  refine V_aload_n (pc := 329) dL_law_329 rfl ?_
  refine V_callV_I (x := (dyM (dyX σ ).2 ).1) (τ := (dyM (dyX σ ).2 ).2) (pc := 330) (k := 0) (ci := 5) (m := 0) ff_X5_day ml_L_47 (by decide +kernel) rfl rfl (c_X5_day  gm.1 (by rw [gm.2.1]; decide) u22 u21 gm.2.2.1 (Nat.lt_of_le_of_lt (Nat.succ_le_succ gm.2.2.2) (by decide))) dL_law_330 rfl rfl (by decide) (by decide) (Nat.le_of_ble_eq_true rfl) ?_
  have hz := st_day g hk 
  exact V_icmpR_eq (pc := 333) 1086 dL_law_333 (by decide) (fun _ => J _ hz.2) (fun h => absurd (congrArg nI hz.1) h)
set_option maxHeartbeats 2000000 in
theorem lc_set (hX : SX E B sb L xs) (hL : L < 2 ^ 31) (h7 : i + 7 ≤ L) (g : SIM k σ) (hk : k ≤ 2 ^ 20) (J : ∀ w, SIM (k + 1) w → V E B RL cL_law 4 20 Q 1086 (lvL B sb i) [] w) : V E B RL cL_law 4 20 Q 338 (lvL B sb i) [] σ := by
  obtain ⟨gx, ty, om, h48, n1, n2, k4, s64, l48, m6⟩ := g.cls hk
  refine V_aload_n (pc := 338) dL_law_338 rfl ?_
  refine V_aload_n (pc := 339) dL_law_339 rfl ?_
  refine V_iload_n (pc := 340) dL_law_340 rfl ?_
  refine V_iconst (pc := 341) 1 dL_law_341 (by decide) ?_
  refine V_iadd (pc := 342) dL_law_342 ?_
  refine V_sld (pc := 343) hX (by omega) hL dL_law_343 ?_
  refine V_aload_n (pc := 344) dL_law_344 rfl ?_
  refine V_iload_n (pc := 345) dL_law_345 rfl ?_
  refine V_iconst (pc := 346) 2 dL_law_346 (by decide) ?_
  refine V_iadd (pc := 347) dL_law_347 ?_
  refine V_sld (pc := 348) hX (by omega) hL dL_law_348 ?_
  refine V_callV_I (x := (seX σ (iN (xs (i + 1))) (iN (xs (i + 2)))).1) (τ := (seX σ (iN (xs (i + 1))) (iN (xs (i + 2)))).2) (pc := 349) (k := 17) (ci := 4) (m := 0) ff_X4_set ml_L_48 (by decide +kernel) rfl rfl (c_X4_set (iN_lt _) (iN_lt _)  gx n1 n2) dL_law_349 rfl rfl (by decide) (by decide) (Nat.le_of_ble_eq_true rfl) ?_
  obtain ⟨-, -, gm, ow, tz, u22, u21, u15, u28⟩ := g.mdl hk (lo_set (iN (xs (i + 1))) (iN (xs (i + 2))))
  refine V_aload_n (pc := 352) dL_law_352 rfl ?_
  refine V_aload_n (pc := 353) dL_law_353 rfl ?_
  refine V_iload_n (pc := 354) dL_law_354 rfl ?_
  refine V_iconst (pc := 355) 1 dL_law_355 (by decide) ?_
  refine V_iadd (pc := 356) dL_law_356 ?_
  refine V_sld (pc := 357) hX (by omega) hL dL_law_357 ?_
  refine V_aload_n (pc := 358) dL_law_358 rfl ?_
  refine V_iload_n (pc := 359) dL_law_359 rfl ?_
  refine V_iconst (pc := 360) 2 dL_law_360 (by decide) ?_
  refine V_iadd (pc := 361) dL_law_361 ?_
  refine V_sld (pc := 362) hX (by omega) hL dL_law_362 ?_
  refine V_callV_I (x := (seM (seX σ (iN (xs (i + 1))) (iN (xs (i + 2)))).2 (iN (xs (i + 1))) (iN (xs (i + 2)))).1) (τ := (seM (seX σ (iN (xs (i + 1))) (iN (xs (i + 2)))).2 (iN (xs (i + 1))) (iN (xs (i + 2)))).2) (pc := 363) (k := 0) (ci := 5) (m := 0) ff_X5_set ml_L_51 (by decide +kernel) rfl rfl (c_X5_set (iN_lt _) (iN_lt _)  gm.1.2.2.1 u22 u21 gm.2.2.1) dL_law_363 rfl rfl (by decide) (by decide) (Nat.le_of_ble_eq_true rfl) ?_
  have hz := st_set g (iN (xs (i + 1))) (iN (xs (i + 2)))
  exact V_icmpR_eq (pc := 366) 1086 dL_law_366 (by decide) (fun _ => J _ hz.2) (fun h => absurd (congrArg nI hz.1) h)
set_option maxHeartbeats 2000000 in
theorem lc_moor (hX : SX E B sb L xs) (hL : L < 2 ^ 31) (h7 : i + 7 ≤ L) (g : SIM k σ) (hk : k ≤ 2 ^ 20) (J : ∀ w, SIM (k + 1) w → V E B RL cL_law 4 20 Q 1086 (lvL B sb i) [] w) : V E B RL cL_law 4 20 Q 371 (lvL B sb i) [] σ := by
  obtain ⟨gx, ty, om, h48, n1, n2, k4, s64, l48, m6⟩ := g.cls hk
  refine V_aload_n (pc := 371) dL_law_371 rfl ?_
  refine V_aload_n (pc := 372) dL_law_372 rfl ?_
  refine V_iload_n (pc := 373) dL_law_373 rfl ?_
  refine V_iconst (pc := 374) 1 dL_law_374 (by decide) ?_
  refine V_iadd (pc := 375) dL_law_375 ?_
  refine V_sld (pc := 376) hX (by omega) hL dL_law_376 ?_
  refine V_callV_I (x := (moX σ (iN (xs (i + 1)))).1) (τ := (moX σ (iN (xs (i + 1)))).2) (pc := 377) (k := 17) (ci := 4) (m := 0) ff_X4_moor ml_L_52 (by decide +kernel) rfl rfl (c_X4_moor (iN_lt _)  gx n1 n2) dL_law_377 rfl rfl (by decide) (by decide) (Nat.le_of_ble_eq_true rfl) ?_
  obtain ⟨-, -, gm, ow, tz, u22, u21, u15, u28⟩ := g.mdl hk (lo_moor (iN (xs (i + 1))))
  refine V_aload_n (pc := 380) dL_law_380 rfl ?_
  refine V_aload_n (pc := 381) dL_law_381 rfl ?_
  refine V_iload_n (pc := 382) dL_law_382 rfl ?_
  refine V_iconst (pc := 383) 1 dL_law_383 (by decide) ?_
  refine V_iadd (pc := 384) dL_law_384 ?_
  refine V_sld (pc := 385) hX (by omega) hL dL_law_385 ?_
  refine V_callV_I (x := (moM (moX σ (iN (xs (i + 1)))).2 (iN (xs (i + 1)))).1) (τ := (moM (moX σ (iN (xs (i + 1)))).2 (iN (xs (i + 1)))).2) (pc := 386) (k := 0) (ci := 5) (m := 0) ff_X5_moor ml_L_55 (by decide +kernel) rfl rfl (c_X5_moor (iN_lt _)  gm.1.2.2.1 u22 u21 gm.2.2.1) dL_law_386 rfl rfl (by decide) (by decide) (Nat.le_of_ble_eq_true rfl) ?_
  have hz := st_moor g (iN (xs (i + 1)))
  exact V_icmpR_eq (pc := 389) 1086 dL_law_389 (by decide) (fun _ => J _ hz.2) (fun h => absurd (congrArg nI hz.1) h)
set_option maxHeartbeats 2000000 in
theorem lc_put (hX : SX E B sb L xs) (hL : L < 2 ^ 31) (h7 : i + 7 ≤ L) (g : SIM k σ) (hk : k ≤ 2 ^ 20) (J : ∀ w, SIM (k + 1) w → V E B RL cL_law 4 20 Q 1086 (lvL B sb i) [] w) : V E B RL cL_law 4 20 Q 394 (lvL B sb i) [] σ := by
  obtain ⟨gx, ty, om, h48, n1, n2, k4, s64, l48, m6⟩ := g.cls hk
  refine V_aload_n (pc := 394) dL_law_394 rfl ?_
  refine V_aload_n (pc := 395) dL_law_395 rfl ?_
  refine V_iload_n (pc := 396) dL_law_396 rfl ?_
  refine V_iconst (pc := 397) 1 dL_law_397 (by decide) ?_
  refine V_iadd (pc := 398) dL_law_398 ?_
  refine V_sld (pc := 399) hX (by omega) hL dL_law_399 ?_
  refine V_callV_I (x := (puX σ (iN (xs (i + 1)))).1) (τ := (puX σ (iN (xs (i + 1)))).2) (pc := 400) (k := 17) (ci := 4) (m := 0) ff_X4_put ml_L_56 (by decide +kernel) rfl rfl (c_X4_put (iN_lt _)  gx n1 n2) dL_law_400 rfl rfl (by decide) (by decide) (Nat.le_of_ble_eq_true rfl) ?_
  obtain ⟨-, -, gm, ow, tz, u22, u21, u15, u28⟩ := g.mdl hk (lo_put (iN (xs (i + 1))))
  refine V_aload_n (pc := 403) dL_law_403 rfl ?_
  refine V_aload_n (pc := 404) dL_law_404 rfl ?_
  refine V_iload_n (pc := 405) dL_law_405 rfl ?_
  refine V_iconst (pc := 406) 1 dL_law_406 (by decide) ?_
  refine V_iadd (pc := 407) dL_law_407 ?_
  refine V_sld (pc := 408) hX (by omega) hL dL_law_408 ?_
  refine V_callV_I (x := (puM (puX σ (iN (xs (i + 1)))).2 (iN (xs (i + 1)))).1) (τ := (puM (puX σ (iN (xs (i + 1)))).2 (iN (xs (i + 1)))).2) (pc := 409) (k := 0) (ci := 5) (m := 0) ff_X5_put ml_L_59 (by decide +kernel) rfl rfl (c_X5_put (iN_lt _)  gm.1.2.2.1 u22 u21 gm.2.2.1) dL_law_409 rfl rfl (by decide) (by decide) (Nat.le_of_ble_eq_true rfl) ?_
  have hz := st_put g (iN (xs (i + 1)))
  exact V_icmpR_eq (pc := 412) 1086 dL_law_412 (by decide) (fun _ => J _ hz.2) (fun h => absurd (congrArg nI hz.1) h)
set_option maxHeartbeats 2000000 in
theorem lc_undo (hX : SX E B sb L xs) (hL : L < 2 ^ 31) (h7 : i + 7 ≤ L) (g : SIM k σ) (hk : k ≤ 2 ^ 20) (J : ∀ w, SIM (k + 1) w → V E B RL cL_law 4 20 Q 1086 (lvL B sb i) [] w) : V E B RL cL_law 4 20 Q 417 (lvL B sb i) [] σ := by
  obtain ⟨gx, ty, om, h48, n1, n2, k4, s64, l48, m6⟩ := g.cls hk
  refine V_aload_n (pc := 417) dL_law_417 rfl ?_
  refine V_callV_I (x := (unX σ ).1) (τ := (unX σ ).2) (pc := 418) (k := 17) (ci := 4) (m := 0) ff_X4_undo ml_L_60 (by decide +kernel) rfl rfl (c_X4_undo  n1 n2) dL_law_418 rfl rfl (by decide) (by decide) (Nat.le_of_ble_eq_true rfl) ?_
  obtain ⟨-, -, gm, ow, tz, u22, u21, u15, u28⟩ := g.mdl hk (lo_undo )
  refine V_aload_n (pc := 421) dL_law_421 rfl ?_
  refine V_callV_I (x := (unM (unX σ ).2 ).1) (τ := (unM (unX σ ).2 ).2) (pc := 422) (k := 0) (ci := 5) (m := 0) ff_X5_undo ml_L_63 (by decide +kernel) rfl rfl (c_X5_undo  u22 u21) dL_law_422 rfl rfl (by decide) (by decide) (Nat.le_of_ble_eq_true rfl) ?_
  have hz := st_undo g 
  exact V_icmpR_eq (pc := 425) 1086 dL_law_425 (by decide) (fun _ => J _ hz.2) (fun h => absurd (congrArg nI hz.1) h)
set_option maxHeartbeats 2000000 in
theorem lc_ahead (hX : SX E B sb L xs) (hL : L < 2 ^ 31) (h7 : i + 7 ≤ L) (g : SIM k σ) (hk : k ≤ 2 ^ 20) (J : ∀ w, SIM (k + 1) w → V E B RL cL_law 4 20 Q 1086 (lvL B sb i) [] w) : V E B RL cL_law 4 20 Q 430 (lvL B sb i) [] σ := by
  obtain ⟨gx, ty, om, h48, n1, n2, k4, s64, l48, m6⟩ := g.cls hk
  refine V_aload_n (pc := 430) dL_law_430 rfl ?_
  refine V_aload_n (pc := 431) dL_law_431 rfl ?_
  refine V_iload_n (pc := 432) dL_law_432 rfl ?_
  refine V_iconst (pc := 433) 1 dL_law_433 (by decide) ?_
  refine V_iadd (pc := 434) dL_law_434 ?_
  refine V_sld (pc := 435) hX (by omega) hL dL_law_435 ?_
  refine V_aload_n (pc := 436) dL_law_436 rfl ?_
  refine V_iload_n (pc := 437) dL_law_437 rfl ?_
  refine V_iconst (pc := 438) 2 dL_law_438 (by decide) ?_
  refine V_iadd (pc := 439) dL_law_439 ?_
  refine V_sld (pc := 440) hX (by omega) hL dL_law_440 ?_
  refine V_aload_n (pc := 441) dL_law_441 rfl ?_
  refine V_iload_n (pc := 442) dL_law_442 rfl ?_
  refine V_iconst (pc := 443) 3 dL_law_443 (by decide) ?_
  refine V_iadd (pc := 444) dL_law_444 ?_
  refine V_sld (pc := 445) hX (by omega) hL dL_law_445 ?_
  refine V_callV_rI (pc := 446) (k := 17) (ci := 4) (m := 0) ff_X4_ahead ml_L_64 (by decide +kernel) rfl rfl (c_X4_ahead (iN_lt _) (iN_lt _) (iN_lt _)  gx h48) dL_law_446 rfl rfl (by decide) (by decide) (Nat.le_of_ble_eq_true rfl) (fun u hu => ?_)
  have hF := FC_TQ hu
  have hlo : ∀ j, j < 17 → u j = σ j := fun j h => hF.1 j (by omega) (by omega)
  obtain ⟨-, -, gm, ow, tz, u22, u21, u15, u28⟩ := g.mdl hk hlo
  refine V_aload_n (pc := 449) dL_law_449 rfl ?_
  refine V_aload_n (pc := 450) dL_law_450 rfl ?_
  refine V_iload_n (pc := 451) dL_law_451 rfl ?_
  refine V_iconst (pc := 452) 1 dL_law_452 (by decide) ?_
  refine V_iadd (pc := 453) dL_law_453 ?_
  refine V_sld (pc := 454) hX (by omega) hL dL_law_454 ?_
  refine V_aload_n (pc := 455) dL_law_455 rfl ?_
  refine V_iload_n (pc := 456) dL_law_456 rfl ?_
  refine V_iconst (pc := 457) 2 dL_law_457 (by decide) ?_
  refine V_iadd (pc := 458) dL_law_458 ?_
  refine V_sld (pc := 459) hX (by omega) hL dL_law_459 ?_
  refine V_aload_n (pc := 460) dL_law_460 rfl ?_
  refine V_iload_n (pc := 461) dL_law_461 rfl ?_
  refine V_iconst (pc := 462) 3 dL_law_462 (by decide) ?_
  refine V_iadd (pc := 463) dL_law_463 ?_
  refine V_sld (pc := 464) hX (by omega) hL dL_law_464 ?_
  refine V_callV_rI (pc := 465) (k := 0) (ci := 5) (m := 0) ff_X5_ahead ml_L_68 (by decide +kernel) rfl rfl (c_X5_ahead (iN_lt _) (iN_lt _) (iN_lt _)  gm) dL_law_465 rfl rfl (by decide) (by decide) (Nat.le_of_ble_eq_true rfl) (fun w hw => ?_)
  exact V_icmpR_eq (pc := 468) 1086 dL_law_468 (by decide) (fun _ => J _ (SIM_q g hF hw)) (fun h => absurd (congrArg nI (st_ahead g hk hlo (iN (xs (i + 1))) (iN (xs (i + 2))) (iN (xs (i + 3))))) h)
set_option maxHeartbeats 2000000 in
theorem lc_later (hX : SX E B sb L xs) (hL : L < 2 ^ 31) (h7 : i + 7 ≤ L) (g : SIM k σ) (hk : k ≤ 2 ^ 20) (J : ∀ w, SIM (k + 1) w → V E B RL cL_law 4 20 Q 1086 (lvL B sb i) [] w) : V E B RL cL_law 4 20 Q 473 (lvL B sb i) [] σ := by
  obtain ⟨gx, ty, om, h48, n1, n2, k4, s64, l48, m6⟩ := g.cls hk
  refine V_aload_n (pc := 473) dL_law_473 rfl ?_
  refine V_aload_n (pc := 474) dL_law_474 rfl ?_
  refine V_iload_n (pc := 475) dL_law_475 rfl ?_
  refine V_iconst (pc := 476) 1 dL_law_476 (by decide) ?_
  refine V_iadd (pc := 477) dL_law_477 ?_
  refine V_sld (pc := 478) hX (by omega) hL dL_law_478 ?_
  refine V_aload_n (pc := 479) dL_law_479 rfl ?_
  refine V_iload_n (pc := 480) dL_law_480 rfl ?_
  refine V_iconst (pc := 481) 2 dL_law_481 (by decide) ?_
  refine V_iadd (pc := 482) dL_law_482 ?_
  refine V_sld (pc := 483) hX (by omega) hL dL_law_483 ?_
  refine V_aload_n (pc := 484) dL_law_484 rfl ?_
  refine V_iload_n (pc := 485) dL_law_485 rfl ?_
  refine V_iconst (pc := 486) 3 dL_law_486 (by decide) ?_
  refine V_iadd (pc := 487) dL_law_487 ?_
  refine V_sld (pc := 488) hX (by omega) hL dL_law_488 ?_
  refine V_callV_rI (pc := 489) (k := 17) (ci := 4) (m := 0) ff_X4_later ml_L_69 (by decide +kernel) rfl rfl (c_X4_later (iN_lt _) (iN_lt _) (iN_lt _)  gx h48) dL_law_489 rfl rfl (by decide) (by decide) (Nat.le_of_ble_eq_true rfl) (fun u hu => ?_)
  have hF := FC_TQ hu
  have hlo : ∀ j, j < 17 → u j = σ j := fun j h => hF.1 j (by omega) (by omega)
  obtain ⟨-, -, gm, ow, tz, u22, u21, u15, u28⟩ := g.mdl hk hlo
  refine V_aload_n (pc := 492) dL_law_492 rfl ?_
  refine V_aload_n (pc := 493) dL_law_493 rfl ?_
  refine V_iload_n (pc := 494) dL_law_494 rfl ?_
  refine V_iconst (pc := 495) 1 dL_law_495 (by decide) ?_
  refine V_iadd (pc := 496) dL_law_496 ?_
  refine V_sld (pc := 497) hX (by omega) hL dL_law_497 ?_
  refine V_aload_n (pc := 498) dL_law_498 rfl ?_
  refine V_iload_n (pc := 499) dL_law_499 rfl ?_
  refine V_iconst (pc := 500) 2 dL_law_500 (by decide) ?_
  refine V_iadd (pc := 501) dL_law_501 ?_
  refine V_sld (pc := 502) hX (by omega) hL dL_law_502 ?_
  refine V_aload_n (pc := 503) dL_law_503 rfl ?_
  refine V_iload_n (pc := 504) dL_law_504 rfl ?_
  refine V_iconst (pc := 505) 3 dL_law_505 (by decide) ?_
  refine V_iadd (pc := 506) dL_law_506 ?_
  refine V_sld (pc := 507) hX (by omega) hL dL_law_507 ?_
  refine V_callV_rI (pc := 508) (k := 0) (ci := 5) (m := 0) ff_X5_later ml_L_72 (by decide +kernel) rfl rfl (c_X5_later (iN_lt _) (iN_lt _) (iN_lt _)  gm) dL_law_508 rfl rfl (by decide) (by decide) (Nat.le_of_ble_eq_true rfl) (fun w hw => ?_)
  exact V_icmpR_eq (pc := 511) 1086 dL_law_511 (by decide) (fun _ => J _ (SIM_q g hF hw)) (fun h => absurd (congrArg nI (st_later g hk hlo (iN (xs (i + 1))) (iN (xs (i + 2))) (iN (xs (i + 3))))) h)
set_option maxHeartbeats 2000000 in
theorem lc_enough (hX : SX E B sb L xs) (hL : L < 2 ^ 31) (h7 : i + 7 ≤ L) (g : SIM k σ) (hk : k ≤ 2 ^ 20) (J : ∀ w, SIM (k + 1) w → V E B RL cL_law 4 20 Q 1086 (lvL B sb i) [] w) : V E B RL cL_law 4 20 Q 516 (lvL B sb i) [] σ := by
  obtain ⟨gx, ty, om, h48, n1, n2, k4, s64, l48, m6⟩ := g.cls hk
  refine V_aload_n (pc := 516) dL_law_516 rfl ?_
  refine V_aload_n (pc := 517) dL_law_517 rfl ?_
  refine V_iload_n (pc := 518) dL_law_518 rfl ?_
  refine V_iconst (pc := 519) 1 dL_law_519 (by decide) ?_
  refine V_iadd (pc := 520) dL_law_520 ?_
  refine V_sld (pc := 521) hX (by omega) hL dL_law_521 ?_
  refine V_aload_n (pc := 522) dL_law_522 rfl ?_
  refine V_iload_n (pc := 523) dL_law_523 rfl ?_
  refine V_iconst (pc := 524) 2 dL_law_524 (by decide) ?_
  refine V_iadd (pc := 525) dL_law_525 ?_
  refine V_sld (pc := 526) hX (by omega) hL dL_law_526 ?_
  refine V_aload_n (pc := 527) dL_law_527 rfl ?_
  refine V_iload_n (pc := 528) dL_law_528 rfl ?_
  refine V_iconst (pc := 529) 3 dL_law_529 (by decide) ?_
  refine V_iadd (pc := 530) dL_law_530 ?_
  refine V_sld (pc := 531) hX (by omega) hL dL_law_531 ?_
  refine V_callV_rI (pc := 532) (k := 17) (ci := 4) (m := 0) ff_X4_enough ml_L_73 (by decide +kernel) rfl rfl (c_X4_enough (iN_lt _) (iN_lt _) (iN_lt _)  gx h48) dL_law_532 rfl rfl (by decide) (by decide) (Nat.le_of_ble_eq_true rfl) (fun u hu => ?_)
  have hF := FC_TQ hu
  have hlo : ∀ j, j < 17 → u j = σ j := fun j h => hF.1 j (by omega) (by omega)
  obtain ⟨-, -, gm, ow, tz, u22, u21, u15, u28⟩ := g.mdl hk hlo
  refine V_aload_n (pc := 535) dL_law_535 rfl ?_
  refine V_aload_n (pc := 536) dL_law_536 rfl ?_
  refine V_iload_n (pc := 537) dL_law_537 rfl ?_
  refine V_iconst (pc := 538) 1 dL_law_538 (by decide) ?_
  refine V_iadd (pc := 539) dL_law_539 ?_
  refine V_sld (pc := 540) hX (by omega) hL dL_law_540 ?_
  refine V_aload_n (pc := 541) dL_law_541 rfl ?_
  refine V_iload_n (pc := 542) dL_law_542 rfl ?_
  refine V_iconst (pc := 543) 2 dL_law_543 (by decide) ?_
  refine V_iadd (pc := 544) dL_law_544 ?_
  refine V_sld (pc := 545) hX (by omega) hL dL_law_545 ?_
  refine V_aload_n (pc := 546) dL_law_546 rfl ?_
  refine V_iload_n (pc := 547) dL_law_547 rfl ?_
  refine V_iconst (pc := 548) 3 dL_law_548 (by decide) ?_
  refine V_iadd (pc := 549) dL_law_549 ?_
  refine V_sld (pc := 550) hX (by omega) hL dL_law_550 ?_
  refine V_callV_rI (pc := 551) (k := 0) (ci := 5) (m := 0) ff_X5_enough ml_L_76 (by decide +kernel) rfl rfl (c_X5_enough (iN_lt _) (iN_lt _) (iN_lt _)  gm) dL_law_551 rfl rfl (by decide) (by decide) (Nat.le_of_ble_eq_true rfl) (fun w hw => ?_)
  exact V_icmpR_eq (pc := 554) 1086 dL_law_554 (by decide) (fun _ => J _ (SIM_q g hF hw)) (fun h => absurd (congrArg nI (st_enough g hk hlo (iN (xs (i + 1))) (iN (xs (i + 2))) (iN (xs (i + 3))))) h)
set_option maxHeartbeats 2000000 in
theorem lc_best (hX : SX E B sb L xs) (hL : L < 2 ^ 31) (h7 : i + 7 ≤ L) (g : SIM k σ) (hk : k ≤ 2 ^ 20) (J : ∀ w, SIM (k + 1) w → V E B RL cL_law 4 20 Q 1086 (lvL B sb i) [] w) : V E B RL cL_law 4 20 Q 559 (lvL B sb i) [] σ := by
  obtain ⟨gx, ty, om, h48, n1, n2, k4, s64, l48, m6⟩ := g.cls hk
  refine V_aload_n (pc := 559) dL_law_559 rfl ?_
  refine V_aload_n (pc := 560) dL_law_560 rfl ?_
  refine V_iload_n (pc := 561) dL_law_561 rfl ?_
  refine V_iconst (pc := 562) 1 dL_law_562 (by decide) ?_
  refine V_iadd (pc := 563) dL_law_563 ?_
  refine V_sld (pc := 564) hX (by omega) hL dL_law_564 ?_
  refine V_aload_n (pc := 565) dL_law_565 rfl ?_
  refine V_iload_n (pc := 566) dL_law_566 rfl ?_
  refine V_iconst (pc := 567) 2 dL_law_567 (by decide) ?_
  refine V_iadd (pc := 568) dL_law_568 ?_
  refine V_sld (pc := 569) hX (by omega) hL dL_law_569 ?_
  refine V_aload_n (pc := 570) dL_law_570 rfl ?_
  refine V_iload_n (pc := 571) dL_law_571 rfl ?_
  refine V_iconst (pc := 572) 3 dL_law_572 (by decide) ?_
  refine V_iadd (pc := 573) dL_law_573 ?_
  refine V_sld (pc := 574) hX (by omega) hL dL_law_574 ?_
  refine V_callV_rI (pc := 575) (k := 17) (ci := 4) (m := 0) ff_X4_best ml_L_77 (by decide +kernel) rfl rfl (c_X4_best (iN_lt _) (iN_lt _) (iN_lt _)  gx h48) dL_law_575 rfl rfl (by decide) (by decide) (Nat.le_of_ble_eq_true rfl) (fun u hu => ?_)
  have hF := FC_TQ hu
  have hlo : ∀ j, j < 17 → u j = σ j := fun j h => hF.1 j (by omega) (by omega)
  obtain ⟨-, -, gm, ow, tz, u22, u21, u15, u28⟩ := g.mdl hk hlo
  refine V_aload_n (pc := 578) dL_law_578 rfl ?_
  refine V_aload_n (pc := 579) dL_law_579 rfl ?_
  refine V_iload_n (pc := 580) dL_law_580 rfl ?_
  refine V_iconst (pc := 581) 1 dL_law_581 (by decide) ?_
  refine V_iadd (pc := 582) dL_law_582 ?_
  refine V_sld (pc := 583) hX (by omega) hL dL_law_583 ?_
  refine V_aload_n (pc := 584) dL_law_584 rfl ?_
  refine V_iload_n (pc := 585) dL_law_585 rfl ?_
  refine V_iconst (pc := 586) 2 dL_law_586 (by decide) ?_
  refine V_iadd (pc := 587) dL_law_587 ?_
  refine V_sld (pc := 588) hX (by omega) hL dL_law_588 ?_
  refine V_aload_n (pc := 589) dL_law_589 rfl ?_
  refine V_iload_n (pc := 590) dL_law_590 rfl ?_
  refine V_iconst (pc := 591) 3 dL_law_591 (by decide) ?_
  refine V_iadd (pc := 592) dL_law_592 ?_
  refine V_sld (pc := 593) hX (by omega) hL dL_law_593 ?_
  refine V_callV_rI (pc := 594) (k := 0) (ci := 5) (m := 0) ff_X5_best ml_L_80 (by decide +kernel) rfl rfl (c_X5_best (iN_lt _) (iN_lt _) (iN_lt _)  gm) dL_law_594 rfl rfl (by decide) (by decide) (Nat.le_of_ble_eq_true rfl) (fun w hw => ?_)
  exact V_icmpR_eq (pc := 597) 1086 dL_law_597 (by decide) (fun _ => J _ (SIM_q g hF hw)) (fun h => absurd (congrArg nI (st_best g hk hlo (iN (xs (i + 1))) (iN (xs (i + 2))) (iN (xs (i + 3))))) h)
set_option maxHeartbeats 2000000 in
theorem lc_fit (hX : SX E B sb L xs) (hL : L < 2 ^ 31) (h7 : i + 7 ≤ L) (g : SIM k σ) (hk : k ≤ 2 ^ 20) (J : ∀ w, SIM (k + 1) w → V E B RL cL_law 4 20 Q 1086 (lvL B sb i) [] w) : V E B RL cL_law 4 20 Q 602 (lvL B sb i) [] σ := by
  obtain ⟨gx, ty, om, h48, n1, n2, k4, s64, l48, m6⟩ := g.cls hk
  refine V_aload_n (pc := 602) dL_law_602 rfl ?_
  refine V_callV_rI (pc := 603) (k := 17) (ci := 4) (m := 0) ff_X4_fit ml_L_81 (by decide +kernel) rfl rfl (c_X4_fit  gx h48) dL_law_603 rfl rfl (by decide) (by decide) (Nat.le_of_ble_eq_true rfl) (fun u hu => ?_)
  have hF := FC_TS hu
  have hlo : ∀ j, j < 17 → u j = σ j := fun j h => hF.1 j (by omega) (by omega)
  obtain ⟨-, -, gm, ow, tz, u22, u21, u15, u28⟩ := g.mdl hk hlo
  refine V_aload_n (pc := 606) dL_law_606 rfl ?_
  refine V_callV_rI (pc := 607) (k := 0) (ci := 5) (m := 0) ff_X5_fit ml_L_84 (by decide +kernel) rfl rfl (c_X5_fit  gm) dL_law_607 rfl rfl (by decide) (by decide) (Nat.le_of_ble_eq_true rfl) (fun w hw => ?_)
  exact V_icmpR_eq (pc := 610) 1086 dL_law_610 (by decide) (fun _ => J _ (SIM_q g hF hw)) (fun h => absurd (congrArg nI (st_fit g hk hlo )) h)
set_option maxHeartbeats 2000000 in
theorem lc_judge (hX : SX E B sb L xs) (hL : L < 2 ^ 31) (h7 : i + 7 ≤ L) (g : SIM k σ) (hk : k ≤ 2 ^ 20) (J : ∀ w, SIM (k + 1) w → V E B RL cL_law 4 20 Q 1086 (lvL B sb i) [] w) : V E B RL cL_law 4 20 Q 615 (lvL B sb i) [] σ := by
  obtain ⟨gx, ty, om, h48, n1, n2, k4, s64, l48, m6⟩ := g.cls hk
  refine V_aload_n (pc := 615) dL_law_615 rfl ?_
  refine V_aload_n (pc := 616) dL_law_616 rfl ?_
  refine V_iload_n (pc := 617) dL_law_617 rfl ?_
  refine V_iconst (pc := 618) 1 dL_law_618 (by decide) ?_
  refine V_iadd (pc := 619) dL_law_619 ?_
  refine V_sld (pc := 620) hX (by omega) hL dL_law_620 ?_
  refine V_aload_n (pc := 621) dL_law_621 rfl ?_
  refine V_iload_n (pc := 622) dL_law_622 rfl ?_
  refine V_iconst (pc := 623) 2 dL_law_623 (by decide) ?_
  refine V_iadd (pc := 624) dL_law_624 ?_
  refine V_sld (pc := 625) hX (by omega) hL dL_law_625 ?_
  refine V_i2l (pc := 626) dL_law_626 rfl ?_
  refine V_bipush (pc := 627) 32 dL_law_627 (by decide) ?_
  refine V_lshl (pc := 629) dL_law_629 rfl ?_
  refine V_aload_n (pc := 630) dL_law_630 rfl ?_
  refine V_iload_n (pc := 631) dL_law_631 rfl ?_
  refine V_iconst (pc := 632) 3 dL_law_632 (by decide) ?_
  refine V_iadd (pc := 633) dL_law_633 ?_
  refine V_sld (pc := 634) hX (by omega) hL dL_law_634 ?_
  refine V_i2l (pc := 635) dL_law_635 rfl ?_
  refine V_ldc2 (pc := 636) kl_L_85 dL_law_636 ?_
  refine V_land (pc := 639) dL_law_639 ?_
  refine V_lorN (pc := 640) dL_law_640 ?_
  refine V_callV_rI (pc := 641) (k := 17) (ci := 4) (m := 0) ff_X4_judge ml_L_87 (by decide +kernel) rfl rfl (c_X4_judge (iN_lt _) (jN_lt _) gx h48) dL_law_641 rfl rfl (by decide) (by decide) (Nat.le_of_ble_eq_true rfl) (fun u hu => ?_)
  have hF := FC_TQ hu
  have hlo : ∀ j, j < 17 → u j = σ j := fun j h => hF.1 j (by omega) (by omega)
  obtain ⟨-, -, gm, ow, tz, u22, u21, u15, u28⟩ := g.mdl hk hlo
  refine V_aload_n (pc := 644) dL_law_644 rfl ?_
  refine V_aload_n (pc := 645) dL_law_645 rfl ?_
  refine V_iload_n (pc := 646) dL_law_646 rfl ?_
  refine V_iconst (pc := 647) 1 dL_law_647 (by decide) ?_
  refine V_iadd (pc := 648) dL_law_648 ?_
  refine V_sld (pc := 649) hX (by omega) hL dL_law_649 ?_
  refine V_aload_n (pc := 650) dL_law_650 rfl ?_
  refine V_iload_n (pc := 651) dL_law_651 rfl ?_
  refine V_iconst (pc := 652) 2 dL_law_652 (by decide) ?_
  refine V_iadd (pc := 653) dL_law_653 ?_
  refine V_sld (pc := 654) hX (by omega) hL dL_law_654 ?_
  refine V_i2l (pc := 655) dL_law_655 rfl ?_
  refine V_bipush (pc := 656) 32 dL_law_656 (by decide) ?_
  refine V_lshl (pc := 658) dL_law_658 rfl ?_
  refine V_aload_n (pc := 659) dL_law_659 rfl ?_
  refine V_iload_n (pc := 660) dL_law_660 rfl ?_
  refine V_iconst (pc := 661) 3 dL_law_661 (by decide) ?_
  refine V_iadd (pc := 662) dL_law_662 ?_
  refine V_sld (pc := 663) hX (by omega) hL dL_law_663 ?_
  refine V_i2l (pc := 664) dL_law_664 rfl ?_
  refine V_ldc2 (pc := 665) kl_L_85 dL_law_665 ?_
  refine V_land (pc := 668) dL_law_668 ?_
  refine V_lorN (pc := 669) dL_law_669 ?_
  refine V_callV_rI (pc := 670) (k := 0) (ci := 5) (m := 0) ff_X5_judge ml_L_91 (by decide +kernel) rfl rfl (c_X5_judge (iN_lt _) (jN_lt _) gm) dL_law_670 rfl rfl (by decide) (by decide) (Nat.le_of_ble_eq_true rfl) (fun w hw => ?_)
  exact V_icmpR_eq (pc := 673) 1086 dL_law_673 (by decide) (fun _ => J _ (SIM_q g hF hw)) (fun h => absurd (congrArg nI (st_judge g hk hlo (iN (xs (i + 1))) (jN ((nI (iN (xs (i + 2)))).toInt64 <<< ((nI 32).toInt64 &&& 63) ||| ((nI (iN (xs (i + 3)))).toInt64 &&& 4294967295))))) h)
set_option maxHeartbeats 2000000 in
theorem lc_knew (hX : SX E B sb L xs) (hL : L < 2 ^ 31) (h7 : i + 7 ≤ L) (g : SIM k σ) (hk : k ≤ 2 ^ 20) (J : ∀ w, SIM (k + 1) w → V E B RL cL_law 4 20 Q 1086 (lvL B sb i) [] w) : V E B RL cL_law 4 20 Q 678 (lvL B sb i) [] σ := by
  obtain ⟨gx, ty, om, h48, n1, n2, k4, s64, l48, m6⟩ := g.cls hk
  refine V_aload_n (pc := 678) dL_law_678 rfl ?_
  refine V_aload_n (pc := 679) dL_law_679 rfl ?_
  refine V_iload_n (pc := 680) dL_law_680 rfl ?_
  refine V_iconst (pc := 681) 1 dL_law_681 (by decide) ?_
  refine V_iadd (pc := 682) dL_law_682 ?_
  refine V_sld (pc := 683) hX (by omega) hL dL_law_683 ?_
  refine V_aload_n (pc := 684) dL_law_684 rfl ?_
  refine V_iload_n (pc := 685) dL_law_685 rfl ?_
  refine V_iconst (pc := 686) 2 dL_law_686 (by decide) ?_
  refine V_iadd (pc := 687) dL_law_687 ?_
  refine V_sld (pc := 688) hX (by omega) hL dL_law_688 ?_
  refine V_aload_n (pc := 689) dL_law_689 rfl ?_
  refine V_iload_n (pc := 690) dL_law_690 rfl ?_
  refine V_iconst (pc := 691) 3 dL_law_691 (by decide) ?_
  refine V_iadd (pc := 692) dL_law_692 ?_
  refine V_sld (pc := 693) hX (by omega) hL dL_law_693 ?_
  refine V_callV_I (x := (kwX σ (iN (xs (i + 1))) (iN (xs (i + 2))) (iN (xs (i + 3)))).1) (τ := (kwX σ (iN (xs (i + 1))) (iN (xs (i + 2))) (iN (xs (i + 3)))).2) (pc := 694) (k := 17) (ci := 4) (m := 0) ff_X4_knew ml_L_92 (by decide +kernel) rfl rfl (c_X4_knew (iN_lt _) (iN_lt _) (iN_lt _)  m6) dL_law_694 rfl rfl (by decide) (by decide) (Nat.le_of_ble_eq_true rfl) ?_
  obtain ⟨-, -, gm, ow, tz, u22, u21, u15, u28⟩ := g.mdl hk (lo_knew (iN (xs (i + 1))) (iN (xs (i + 2))) (iN (xs (i + 3))))
  refine V_aload_n (pc := 697) dL_law_697 rfl ?_
  refine V_aload_n (pc := 698) dL_law_698 rfl ?_
  refine V_iload_n (pc := 699) dL_law_699 rfl ?_
  refine V_iconst (pc := 700) 1 dL_law_700 (by decide) ?_
  refine V_iadd (pc := 701) dL_law_701 ?_
  refine V_sld (pc := 702) hX (by omega) hL dL_law_702 ?_
  refine V_aload_n (pc := 703) dL_law_703 rfl ?_
  refine V_iload_n (pc := 704) dL_law_704 rfl ?_
  refine V_iconst (pc := 705) 2 dL_law_705 (by decide) ?_
  refine V_iadd (pc := 706) dL_law_706 ?_
  refine V_sld (pc := 707) hX (by omega) hL dL_law_707 ?_
  refine V_aload_n (pc := 708) dL_law_708 rfl ?_
  refine V_iload_n (pc := 709) dL_law_709 rfl ?_
  refine V_iconst (pc := 710) 3 dL_law_710 (by decide) ?_
  refine V_iadd (pc := 711) dL_law_711 ?_
  refine V_sld (pc := 712) hX (by omega) hL dL_law_712 ?_
  refine V_callV_I (x := (kwM (kwX σ (iN (xs (i + 1))) (iN (xs (i + 2))) (iN (xs (i + 3)))).2 (iN (xs (i + 1))) (iN (xs (i + 2))) (iN (xs (i + 3)))).1) (τ := (kwM (kwX σ (iN (xs (i + 1))) (iN (xs (i + 2))) (iN (xs (i + 3)))).2 (iN (xs (i + 1))) (iN (xs (i + 2))) (iN (xs (i + 3)))).2) (pc := 713) (k := 0) (ci := 5) (m := 0) ff_X5_knew ml_L_95 (by decide +kernel) rfl rfl (c_X5_knew (iN_lt _) (iN_lt _) (iN_lt _)  ow.1) dL_law_713 rfl rfl (by decide) (by decide) (Nat.le_of_ble_eq_true rfl) ?_
  have hz := st_knew g (iN (xs (i + 1))) (iN (xs (i + 2))) (iN (xs (i + 3)))
  exact V_icmpR_eq (pc := 716) 1086 dL_law_716 (by decide) (fun _ => J _ hz.2) (fun h => absurd (congrArg nI hz.1) h)
set_option maxHeartbeats 2000000 in
theorem lc_forget (hX : SX E B sb L xs) (hL : L < 2 ^ 31) (h7 : i + 7 ≤ L) (g : SIM k σ) (hk : k ≤ 2 ^ 20) (J : ∀ w, SIM (k + 1) w → V E B RL cL_law 4 20 Q 1086 (lvL B sb i) [] w) : V E B RL cL_law 4 20 Q 721 (lvL B sb i) [] σ := by
  obtain ⟨gx, ty, om, h48, n1, n2, k4, s64, l48, m6⟩ := g.cls hk
  refine V_aload_n (pc := 721) dL_law_721 rfl ?_
  refine V_callV_I (x := (foX σ ).1) (τ := (foX σ ).2) (pc := 722) (k := 17) (ci := 4) (m := 0) ff_X4_forget ml_L_96 (by decide +kernel) rfl rfl (c_X4_forget  ) dL_law_722 rfl rfl (by decide) (by decide) (Nat.le_of_ble_eq_true rfl) ?_
  refine V_aload_n (pc := 725) dL_law_725 rfl ?_
  refine V_callV_I (x := (foM (foX σ ).2 ).1) (τ := (foM (foX σ ).2 ).2) (pc := 726) (k := 0) (ci := 5) (m := 0) ff_X5_forget ml_L_99 (by decide +kernel) rfl rfl (c_X5_forget  ) dL_law_726 rfl rfl (by decide) (by decide) (Nat.le_of_ble_eq_true rfl) ?_
  have hz := st_forget g 
  exact V_icmpR_eq (pc := 729) 1086 dL_law_729 (by decide) (fun _ => J _ hz.2) (fun h => absurd (congrArg nI hz.1) h)
set_option maxHeartbeats 2000000 in
theorem lc_began (hX : SX E B sb L xs) (hL : L < 2 ^ 31) (h7 : i + 7 ≤ L) (g : SIM k σ) (hk : k ≤ 2 ^ 20) (J : ∀ w, SIM (k + 1) w → V E B RL cL_law 4 20 Q 1086 (lvL B sb i) [] w) : V E B RL cL_law 4 20 Q 734 (lvL B sb i) [] σ := by
  obtain ⟨gx, ty, om, h48, n1, n2, k4, s64, l48, m6⟩ := g.cls hk
  refine V_aload_n (pc := 734) dL_law_734 rfl ?_
  refine V_callV_rI (pc := 735) (k := 17) (ci := 4) (m := 0) ff_X4_began ml_L_100 (by decide +kernel) rfl rfl (c_X4_began  gx om h48) dL_law_735 rfl rfl (by decide) (by decide) (Nat.le_of_ble_eq_true rfl) (fun u hu => ?_)
  have hF := FC_TQ hu
  have hlo : ∀ j, j < 17 → u j = σ j := fun j h => hF.1 j (by omega) (by omega)
  obtain ⟨-, -, gm, ow, tz, u22, u21, u15, u28⟩ := g.mdl hk hlo
  refine V_aload_n (pc := 738) dL_law_738 rfl ?_
  refine V_callV_I (pc := 739) (k := 0) (ci := 5) (m := 0) ff_X5_began ml_L_103 (by decide +kernel) rfl rfl (c_X5_began  gm ow) dL_law_739 rfl rfl (by decide) (by decide) (Nat.le_of_ble_eq_true rfl) ?_
  exact V_icmpR_eq (pc := 742) 1086 dL_law_742 (by decide) (fun _ => J _ (SIM_q g hF (TR.rf u))) (fun h => absurd (congrArg nI (st_began g hk hlo)) h)
set_option maxHeartbeats 2000000 in
theorem lc_share (hX : SX E B sb L xs) (hL : L < 2 ^ 31) (h7 : i + 7 ≤ L) (g : SIM k σ) (hk : k ≤ 2 ^ 20) (J : ∀ w, SIM (k + 1) w → V E B RL cL_law 4 20 Q 1086 (lvL B sb i) [] w) : V E B RL cL_law 4 20 Q 747 (lvL B sb i) [] σ := by
  obtain ⟨gx, ty, om, h48, n1, n2, k4, s64, l48, m6⟩ := g.cls hk
  refine V_aload_n (pc := 747) dL_law_747 rfl ?_
  refine V_aload_n (pc := 748) dL_law_748 rfl ?_
  refine V_iload_n (pc := 749) dL_law_749 rfl ?_
  refine V_iconst (pc := 750) 1 dL_law_750 (by decide) ?_
  refine V_iadd (pc := 751) dL_law_751 ?_
  refine V_sld (pc := 752) hX (by omega) hL dL_law_752 ?_
  refine V_aload_n (pc := 753) dL_law_753 rfl ?_
  refine V_iload_n (pc := 754) dL_law_754 rfl ?_
  refine V_iconst (pc := 755) 2 dL_law_755 (by decide) ?_
  refine V_iadd (pc := 756) dL_law_756 ?_
  refine V_sld (pc := 757) hX (by omega) hL dL_law_757 ?_
  refine V_aload_n (pc := 758) dL_law_758 rfl ?_
  refine V_iload_n (pc := 759) dL_law_759 rfl ?_
  refine V_iconst (pc := 760) 3 dL_law_760 (by decide) ?_
  refine V_iadd (pc := 761) dL_law_761 ?_
  refine V_sld (pc := 762) hX (by omega) hL dL_law_762 ?_
  refine V_bool (pc := 763) 770 771 dL_law_763 (by decide) dL_law_766 dL_law_767 (by decide) dL_law_770 rfl (iN_lt _) ?_
  refine V_callV_rI (pc := 771) (k := 17) (ci := 4) (m := 0) ff_X4_share ml_L_104 (by decide +kernel) rfl rfl (c_X4_share (iN_lt _) (iN_lt _) (up_lt _) gx h48) dL_law_771 rfl rfl (by decide) (by decide) (Nat.le_of_ble_eq_true rfl) (fun u hu => ?_)
  have hF := FC_TW hu
  have hlo : ∀ j, j < 17 → u j = σ j := fun j h => hF.1 j (by omega) (by omega)
  obtain ⟨-, -, gm, ow, tz, u22, u21, u15, u28⟩ := g.mdl hk hlo
  refine V_aload_n (pc := 774) dL_law_774 rfl ?_
  refine V_aload_n (pc := 775) dL_law_775 rfl ?_
  refine V_iload_n (pc := 776) dL_law_776 rfl ?_
  refine V_iconst (pc := 777) 1 dL_law_777 (by decide) ?_
  refine V_iadd (pc := 778) dL_law_778 ?_
  refine V_sld (pc := 779) hX (by omega) hL dL_law_779 ?_
  refine V_aload_n (pc := 780) dL_law_780 rfl ?_
  refine V_iload_n (pc := 781) dL_law_781 rfl ?_
  refine V_iconst (pc := 782) 2 dL_law_782 (by decide) ?_
  refine V_iadd (pc := 783) dL_law_783 ?_
  refine V_sld (pc := 784) hX (by omega) hL dL_law_784 ?_
  refine V_aload_n (pc := 785) dL_law_785 rfl ?_
  refine V_iload_n (pc := 786) dL_law_786 rfl ?_
  refine V_iconst (pc := 787) 3 dL_law_787 (by decide) ?_
  refine V_iadd (pc := 788) dL_law_788 ?_
  refine V_sld (pc := 789) hX (by omega) hL dL_law_789 ?_
  refine V_bool (pc := 790) 797 798 dL_law_790 (by decide) dL_law_793 dL_law_794 (by decide) dL_law_797 rfl (iN_lt _) ?_
  refine V_callV_rI (pc := 798) (k := 0) (ci := 5) (m := 0) ff_X5_share ml_L_108 (by decide +kernel) rfl rfl (c_X5_share (iN_lt _) (iN_lt _) (up_lt _) gm) dL_law_798 rfl rfl (by decide) (by decide) (Nat.le_of_ble_eq_true rfl) (fun w hw => ?_)
  exact V_icmpR_eq (pc := 801) 1086 dL_law_801 (by decide) (fun _ => J _ (SIM_q g hF hw)) (fun h => absurd (congrArg nI (st_share g hk hlo (iN (xs (i + 1))) (iN (xs (i + 2))) (if iN (xs (i + 3)) = 0 then 0 else 1))) h)
set_option maxHeartbeats 2000000 in
theorem lc_rests (hX : SX E B sb L xs) (hL : L < 2 ^ 31) (h7 : i + 7 ≤ L) (g : SIM k σ) (hk : k ≤ 2 ^ 20) (J : ∀ w, SIM (k + 1) w → V E B RL cL_law 4 20 Q 1086 (lvL B sb i) [] w) : V E B RL cL_law 4 20 Q 806 (lvL B sb i) [] σ := by
  obtain ⟨gx, ty, om, h48, n1, n2, k4, s64, l48, m6⟩ := g.cls hk
  refine V_aload_n (pc := 806) dL_law_806 rfl ?_
  refine V_aload_n (pc := 807) dL_law_807 rfl ?_
  refine V_iload_n (pc := 808) dL_law_808 rfl ?_
  refine V_iconst (pc := 809) 1 dL_law_809 (by decide) ?_
  refine V_iadd (pc := 810) dL_law_810 ?_
  refine V_sld (pc := 811) hX (by omega) hL dL_law_811 ?_
  refine V_aload_n (pc := 812) dL_law_812 rfl ?_
  refine V_iload_n (pc := 813) dL_law_813 rfl ?_
  refine V_iconst (pc := 814) 2 dL_law_814 (by decide) ?_
  refine V_iadd (pc := 815) dL_law_815 ?_
  refine V_sld (pc := 816) hX (by omega) hL dL_law_816 ?_
  refine V_aload_n (pc := 817) dL_law_817 rfl ?_
  refine V_iload_n (pc := 818) dL_law_818 rfl ?_
  refine V_iconst (pc := 819) 3 dL_law_819 (by decide) ?_
  refine V_iadd (pc := 820) dL_law_820 ?_
  refine V_sld (pc := 821) hX (by omega) hL dL_law_821 ?_
  refine V_callV_rI (pc := 822) (k := 17) (ci := 4) (m := 0) ff_X4_rests ml_L_109 (by decide +kernel) rfl rfl (c_X4_rests (iN_lt _) (iN_lt _) (iN_lt _)  gx h48) dL_law_822 rfl rfl (by decide) (by decide) (Nat.le_of_ble_eq_true rfl) (fun u hu => ?_)
  have hF := FC_TW hu
  have hlo : ∀ j, j < 17 → u j = σ j := fun j h => hF.1 j (by omega) (by omega)
  obtain ⟨-, -, gm, ow, tz, u22, u21, u15, u28⟩ := g.mdl hk hlo
  refine V_aload_n (pc := 825) dL_law_825 rfl ?_
  refine V_aload_n (pc := 826) dL_law_826 rfl ?_
  refine V_iload_n (pc := 827) dL_law_827 rfl ?_
  refine V_iconst (pc := 828) 1 dL_law_828 (by decide) ?_
  refine V_iadd (pc := 829) dL_law_829 ?_
  refine V_sld (pc := 830) hX (by omega) hL dL_law_830 ?_
  refine V_aload_n (pc := 831) dL_law_831 rfl ?_
  refine V_iload_n (pc := 832) dL_law_832 rfl ?_
  refine V_iconst (pc := 833) 2 dL_law_833 (by decide) ?_
  refine V_iadd (pc := 834) dL_law_834 ?_
  refine V_sld (pc := 835) hX (by omega) hL dL_law_835 ?_
  refine V_aload_n (pc := 836) dL_law_836 rfl ?_
  refine V_iload_n (pc := 837) dL_law_837 rfl ?_
  refine V_iconst (pc := 838) 3 dL_law_838 (by decide) ?_
  refine V_iadd (pc := 839) dL_law_839 ?_
  refine V_sld (pc := 840) hX (by omega) hL dL_law_840 ?_
  refine V_callV_rI (pc := 841) (k := 0) (ci := 5) (m := 0) ff_X5_rests ml_L_112 (by decide +kernel) rfl rfl (c_X5_rests (iN_lt _) (iN_lt _) (iN_lt _)  gm) dL_law_841 rfl rfl (by decide) (by decide) (Nat.le_of_ble_eq_true rfl) (fun w hw => ?_)
  exact V_icmpR_eq (pc := 844) 1086 dL_law_844 (by decide) (fun _ => J _ (SIM_q g hF hw)) (fun h => absurd (congrArg nI (st_rests g hk hlo (iN (xs (i + 1))) (iN (xs (i + 2))) (iN (xs (i + 3))))) h)
set_option maxHeartbeats 2000000 in
theorem lc_fails (hX : SX E B sb L xs) (hL : L < 2 ^ 31) (h7 : i + 7 ≤ L) (g : SIM k σ) (hk : k ≤ 2 ^ 20) (J : ∀ w, SIM (k + 1) w → V E B RL cL_law 4 20 Q 1086 (lvL B sb i) [] w) : V E B RL cL_law 4 20 Q 849 (lvL B sb i) [] σ := by
  obtain ⟨gx, ty, om, h48, n1, n2, k4, s64, l48, m6⟩ := g.cls hk
  refine V_aload_n (pc := 849) dL_law_849 rfl ?_
  refine V_aload_n (pc := 850) dL_law_850 rfl ?_
  refine V_iload_n (pc := 851) dL_law_851 rfl ?_
  refine V_iconst (pc := 852) 1 dL_law_852 (by decide) ?_
  refine V_iadd (pc := 853) dL_law_853 ?_
  refine V_sld (pc := 854) hX (by omega) hL dL_law_854 ?_
  refine V_aload_n (pc := 855) dL_law_855 rfl ?_
  refine V_iload_n (pc := 856) dL_law_856 rfl ?_
  refine V_iconst (pc := 857) 2 dL_law_857 (by decide) ?_
  refine V_iadd (pc := 858) dL_law_858 ?_
  refine V_sld (pc := 859) hX (by omega) hL dL_law_859 ?_
  refine V_aload_n (pc := 860) dL_law_860 rfl ?_
  refine V_iload_n (pc := 861) dL_law_861 rfl ?_
  refine V_iconst (pc := 862) 3 dL_law_862 (by decide) ?_
  refine V_iadd (pc := 863) dL_law_863 ?_
  refine V_sld (pc := 864) hX (by omega) hL dL_law_864 ?_
  refine V_aload_n (pc := 865) dL_law_865 rfl ?_
  refine V_iload_n (pc := 866) dL_law_866 rfl ?_
  refine V_iconst (pc := 867) 4 dL_law_867 (by decide) ?_
  refine V_iadd (pc := 868) dL_law_868 ?_
  refine V_sld (pc := 869) hX (by omega) hL dL_law_869 ?_
  refine V_aload_n (pc := 870) dL_law_870 rfl ?_
  refine V_iload_n (pc := 871) dL_law_871 rfl ?_
  refine V_iconst (pc := 872) 5 dL_law_872 (by decide) ?_
  refine V_iadd (pc := 873) dL_law_873 ?_
  refine V_sld (pc := 874) hX (by omega) hL dL_law_874 ?_
  refine V_aload_n (pc := 875) dL_law_875 rfl ?_
  refine V_iload_n (pc := 876) dL_law_876 rfl ?_
  refine V_bipush (pc := 877) 6 dL_law_877 (by decide) ?_
  refine V_iadd (pc := 879) dL_law_879 ?_
  refine V_sld (pc := 880) hX (by omega) hL dL_law_880 ?_
  refine V_bool (pc := 881) 888 889 dL_law_881 (by decide) dL_law_884 dL_law_885 (by decide) dL_law_888 rfl (iN_lt _) ?_
  refine V_callV_rI (pc := 889) (k := 17) (ci := 4) (m := 0) ff_X4_fails ml_L_113 (by decide +kernel) rfl rfl (c_X4_fails (iN_lt _) (iN_lt _) (iN_lt _) (iN_lt _) (iN_lt _) (up_lt _) gx h48) dL_law_889 rfl rfl (by decide) (by decide) (Nat.le_of_ble_eq_true rfl) (fun u hu => ?_)
  have hF := FC_TQ hu
  have hlo : ∀ j, j < 17 → u j = σ j := fun j h => hF.1 j (by omega) (by omega)
  obtain ⟨-, -, gm, ow, tz, u22, u21, u15, u28⟩ := g.mdl hk hlo
  refine V_aload_n (pc := 892) dL_law_892 rfl ?_
  refine V_aload_n (pc := 893) dL_law_893 rfl ?_
  refine V_iload_n (pc := 894) dL_law_894 rfl ?_
  refine V_iconst (pc := 895) 1 dL_law_895 (by decide) ?_
  refine V_iadd (pc := 896) dL_law_896 ?_
  refine V_sld (pc := 897) hX (by omega) hL dL_law_897 ?_
  refine V_aload_n (pc := 898) dL_law_898 rfl ?_
  refine V_iload_n (pc := 899) dL_law_899 rfl ?_
  refine V_iconst (pc := 900) 2 dL_law_900 (by decide) ?_
  refine V_iadd (pc := 901) dL_law_901 ?_
  refine V_sld (pc := 902) hX (by omega) hL dL_law_902 ?_
  refine V_aload_n (pc := 903) dL_law_903 rfl ?_
  refine V_iload_n (pc := 904) dL_law_904 rfl ?_
  refine V_iconst (pc := 905) 3 dL_law_905 (by decide) ?_
  refine V_iadd (pc := 906) dL_law_906 ?_
  refine V_sld (pc := 907) hX (by omega) hL dL_law_907 ?_
  refine V_aload_n (pc := 908) dL_law_908 rfl ?_
  refine V_iload_n (pc := 909) dL_law_909 rfl ?_
  refine V_iconst (pc := 910) 4 dL_law_910 (by decide) ?_
  refine V_iadd (pc := 911) dL_law_911 ?_
  refine V_sld (pc := 912) hX (by omega) hL dL_law_912 ?_
  refine V_aload_n (pc := 913) dL_law_913 rfl ?_
  refine V_iload_n (pc := 914) dL_law_914 rfl ?_
  refine V_iconst (pc := 915) 5 dL_law_915 (by decide) ?_
  refine V_iadd (pc := 916) dL_law_916 ?_
  refine V_sld (pc := 917) hX (by omega) hL dL_law_917 ?_
  refine V_aload_n (pc := 918) dL_law_918 rfl ?_
  refine V_iload_n (pc := 919) dL_law_919 rfl ?_
  refine V_bipush (pc := 920) 6 dL_law_920 (by decide) ?_
  refine V_iadd (pc := 922) dL_law_922 ?_
  refine V_sld (pc := 923) hX (by omega) hL dL_law_923 ?_
  refine V_bool (pc := 924) 931 932 dL_law_924 (by decide) dL_law_927 dL_law_928 (by decide) dL_law_931 rfl (iN_lt _) ?_
  refine V_callV_rI (pc := 932) (k := 0) (ci := 5) (m := 0) ff_X5_fails ml_L_117 (by decide +kernel) rfl rfl (c_X5_fails (iN_lt _) (iN_lt _) (iN_lt _) (iN_lt _) (iN_lt _) (up_lt _) gm) dL_law_932 rfl rfl (by decide) (by decide) (Nat.le_of_ble_eq_true rfl) (fun w hw => ?_)
  exact V_icmpR_eq (pc := 935) 1086 dL_law_935 (by decide) (fun _ => J _ (SIM_q g hF hw)) (fun h => absurd (congrArg nI (st_fails g hk hlo (iN (xs (i + 1))) (iN (xs (i + 2))) (iN (xs (i + 3))) (iN (xs (i + 4))) (iN (xs (i + 5))) (if iN (xs (i + 6)) = 0 then 0 else 1))) h)
set_option maxHeartbeats 2000000 in
theorem lc_seed (hX : SX E B sb L xs) (hL : L < 2 ^ 31) (h7 : i + 7 ≤ L) (g : SIM k σ) (hk : k ≤ 2 ^ 20) (J : ∀ w, SIM (k + 1) w → V E B RL cL_law 4 20 Q 1086 (lvL B sb i) [] w) : V E B RL cL_law 4 20 Q 940 (lvL B sb i) [] σ := by
  obtain ⟨gx, ty, om, h48, n1, n2, k4, s64, l48, m6⟩ := g.cls hk
  refine V_aload_n (pc := 940) dL_law_940 rfl ?_
  refine V_aload_n (pc := 941) dL_law_941 rfl ?_
  refine V_iload_n (pc := 942) dL_law_942 rfl ?_
  refine V_iconst (pc := 943) 1 dL_law_943 (by decide) ?_
  refine V_iadd (pc := 944) dL_law_944 ?_
  refine V_sld (pc := 945) hX (by omega) hL dL_law_945 ?_
  refine V_i2l (pc := 946) dL_law_946 rfl ?_
  refine V_bipush (pc := 947) 32 dL_law_947 (by decide) ?_
  refine V_lshl (pc := 949) dL_law_949 rfl ?_
  refine V_aload_n (pc := 950) dL_law_950 rfl ?_
  refine V_iload_n (pc := 951) dL_law_951 rfl ?_
  refine V_iconst (pc := 952) 2 dL_law_952 (by decide) ?_
  refine V_iadd (pc := 953) dL_law_953 ?_
  refine V_sld (pc := 954) hX (by omega) hL dL_law_954 ?_
  refine V_i2l (pc := 955) dL_law_955 rfl ?_
  refine V_ldc2 (pc := 956) kl_L_85 dL_law_956 ?_
  refine V_land (pc := 959) dL_law_959 ?_
  refine V_lorN (pc := 960) dL_law_960 ?_
  refine V_callV (pc := 961) (k := 17) (ci := 4) (m := 0) ff_X4_seed ml_L_118 (by decide +kernel) rfl rfl (c_X4_seed  ) dL_law_961 rfl rfl (by decide) (by decide) (Nat.le_of_ble_eq_true rfl) (fun v u hv => ?_)
  obtain ⟨rfl, rfl⟩ := hv
  refine V_aload_n (pc := 964) dL_law_964 rfl ?_
  refine V_aload_n (pc := 965) dL_law_965 rfl ?_
  refine V_iload_n (pc := 966) dL_law_966 rfl ?_
  refine V_iconst (pc := 967) 1 dL_law_967 (by decide) ?_
  refine V_iadd (pc := 968) dL_law_968 ?_
  refine V_sld (pc := 969) hX (by omega) hL dL_law_969 ?_
  refine V_i2l (pc := 970) dL_law_970 rfl ?_
  refine V_bipush (pc := 971) 32 dL_law_971 (by decide) ?_
  refine V_lshl (pc := 973) dL_law_973 rfl ?_
  refine V_aload_n (pc := 974) dL_law_974 rfl ?_
  refine V_iload_n (pc := 975) dL_law_975 rfl ?_
  refine V_iconst (pc := 976) 2 dL_law_976 (by decide) ?_
  refine V_iadd (pc := 977) dL_law_977 ?_
  refine V_sld (pc := 978) hX (by omega) hL dL_law_978 ?_
  refine V_i2l (pc := 979) dL_law_979 rfl ?_
  refine V_ldc2 (pc := 980) kl_L_85 dL_law_980 ?_
  refine V_land (pc := 983) dL_law_983 ?_
  refine V_lorN (pc := 984) dL_law_984 ?_
  refine V_callV (pc := 985) (k := 0) (ci := 5) (m := 0) ff_X5_seed ml_L_122 (by decide +kernel) rfl rfl (c_X5_seed  ) dL_law_985 rfl rfl (by decide) (by decide) (Nat.le_of_ble_eq_true rfl) (fun v u hv => ?_)
  obtain ⟨rfl, rfl⟩ := hv
  refine V_lcmp (pc := 988) dL_law_988 ?_
  have hz := st_seed g (v := (jN ((nI (iN (xs (i + 1)))).toInt64 <<< ((nI 32).toInt64 &&& 63) ||| ((nI (iN (xs (i + 2)))).toInt64 &&& 4294967295)))) (jN_lt _)
  refine V_ifR_eq (pc := 989) 1086 dL_law_989 (by decide) (fun _ => J _ hz.2) (fun h => absurd ?_ h)
  rw [hz.1]
  exact cmp_self _
set_option maxHeartbeats 2000000 in
theorem lc_generations (hX : SX E B sb L xs) (hL : L < 2 ^ 31) (h7 : i + 7 ≤ L) (g : SIM k σ) (hk : k ≤ 2 ^ 20) (J : ∀ w, SIM (k + 1) w → V E B RL cL_law 4 20 Q 1086 (lvL B sb i) [] w) : V E B RL cL_law 4 20 Q 994 (lvL B sb i) [] σ := by
  obtain ⟨gx, ty, om, h48, n1, n2, k4, s64, l48, m6⟩ := g.cls hk
  refine V_aload_n (pc := 994) dL_law_994 rfl ?_
  refine V_aload_n (pc := 995) dL_law_995 rfl ?_
  refine V_iload_n (pc := 996) dL_law_996 rfl ?_
  refine V_iconst (pc := 997) 1 dL_law_997 (by decide) ?_
  refine V_iadd (pc := 998) dL_law_998 ?_
  refine V_sld (pc := 999) hX (by omega) hL dL_law_999 ?_
  refine V_callV_rI (pc := 1000) (k := 17) (ci := 4) (m := 0) ff_X4_generations ml_L_123 (by decide +kernel) rfl rfl (c_X4_generations (iN_lt _)  s64 gx h48) dL_law_1000 rfl rfl (by decide) (by decide) (Nat.le_of_ble_eq_true rfl) (fun u hu => ?_)
  have hlo : ∀ j, j < 17 → u j = σ j := fun j h => by rw [(FC_TQ hu).1 j (by omega) (by omega), pt_o (by omega)]
  obtain ⟨-, -, gm, ow, tz, u22, u21, u15, u28⟩ := g.mdl hk hlo
  refine V_aload_n (pc := 1003) dL_law_1003 rfl ?_
  refine V_aload_n (pc := 1004) dL_law_1004 rfl ?_
  refine V_iload_n (pc := 1005) dL_law_1005 rfl ?_
  refine V_iconst (pc := 1006) 1 dL_law_1006 (by decide) ?_
  refine V_iadd (pc := 1007) dL_law_1007 ?_
  refine V_sld (pc := 1008) hX (by omega) hL dL_law_1008 ?_
  refine V_callV_rI (pc := 1009) (k := 0) (ci := 5) (m := 0) ff_X5_generations ml_L_126 (by decide +kernel) rfl rfl (c_X5_generations (iN_lt _)  u28 gm) dL_law_1009 rfl rfl (by decide) (by decide) (Nat.le_of_ble_eq_true rfl) (fun w hw => ?_)
  have hz := st_gen g hk (iN (xs (i + 1))) hu hw
  exact V_icmpR_eq (pc := 1012) 1086 dL_law_1012 (by decide) (fun _ => J _ hz.2) (fun h => absurd (congrArg nI hz.1) h)
set_option maxHeartbeats 2000000 in
theorem lc_keep (hX : SX E B sb L xs) (hL : L < 2 ^ 31) (h7 : i + 7 ≤ L) (g : SIM k σ) (hk : k ≤ 2 ^ 20) (J : ∀ w, SIM (k + 1) w → V E B RL cL_law 4 20 Q 1086 (lvL B sb i) [] w) : V E B RL cL_law 4 20 Q 1017 (lvL B sb i) [] σ := by
  obtain ⟨gx, ty, om, h48, n1, n2, k4, s64, l48, m6⟩ := g.cls hk
  refine V_aload_n (pc := 1017) dL_law_1017 rfl ?_
  refine V_aload_n (pc := 1018) dL_law_1018 rfl ?_
  refine V_iload_n (pc := 1019) dL_law_1019 rfl ?_
  refine V_iconst (pc := 1020) 1 dL_law_1020 (by decide) ?_
  refine V_iadd (pc := 1021) dL_law_1021 ?_
  refine V_sld (pc := 1022) hX (by omega) hL dL_law_1022 ?_
  refine V_callV_I (x := (keX σ (iN (xs (i + 1)))).1) (τ := (keX σ (iN (xs (i + 1)))).2) (pc := 1023) (k := 17) (ci := 4) (m := 0) ff_X4_keep ml_L_127 (by decide +kernel) rfl rfl (c_X4_keep (iN_lt _)  ) dL_law_1023 rfl rfl (by decide) (by decide) (Nat.le_of_ble_eq_true rfl) ?_
  refine V_aload_n (pc := 1026) dL_law_1026 rfl ?_
  refine V_aload_n (pc := 1027) dL_law_1027 rfl ?_
  refine V_iload_n (pc := 1028) dL_law_1028 rfl ?_
  refine V_iconst (pc := 1029) 1 dL_law_1029 (by decide) ?_
  refine V_iadd (pc := 1030) dL_law_1030 ?_
  refine V_sld (pc := 1031) hX (by omega) hL dL_law_1031 ?_
  refine V_callV_I (x := (keM (keX σ (iN (xs (i + 1)))).2 (iN (xs (i + 1)))).1) (τ := (keM (keX σ (iN (xs (i + 1)))).2 (iN (xs (i + 1)))).2) (pc := 1032) (k := 0) (ci := 5) (m := 0) ff_X5_keep ml_L_130 (by decide +kernel) rfl rfl (c_X5_keep (iN_lt _)  ) dL_law_1032 rfl rfl (by decide) (by decide) (Nat.le_of_ble_eq_true rfl) ?_
  have hz := st_keep g (iN (xs (i + 1)))
  exact V_icmpR_eq (pc := 1035) 1086 dL_law_1035 (by decide) (fun _ => J _ hz.2) (fun h => absurd (congrArg nI hz.1) h)
set_option maxHeartbeats 2000000 in
theorem lc_again (hX : SX E B sb L xs) (hL : L < 2 ^ 31) (h7 : i + 7 ≤ L) (g : SIM k σ) (hk : k ≤ 2 ^ 20) (J : ∀ w, SIM (k + 1) w → V E B RL cL_law 4 20 Q 1086 (lvL B sb i) [] w) : V E B RL cL_law 4 20 Q 1040 (lvL B sb i) [] σ := by
  obtain ⟨gx, ty, om, h48, n1, n2, k4, s64, l48, m6⟩ := g.cls hk
  refine V_aload_n (pc := 1040) dL_law_1040 rfl ?_
  refine V_aload_n (pc := 1041) dL_law_1041 rfl ?_
  refine V_iload_n (pc := 1042) dL_law_1042 rfl ?_
  refine V_iconst (pc := 1043) 1 dL_law_1043 (by decide) ?_
  refine V_iadd (pc := 1044) dL_law_1044 ?_
  refine V_sld (pc := 1045) hX (by omega) hL dL_law_1045 ?_
  refine V_callV_I (x := (agX σ (iN (xs (i + 1)))).1) (τ := (agX σ (iN (xs (i + 1)))).2) (pc := 1046) (k := 17) (ci := 4) (m := 0) ff_X4_again ml_L_131 (by decide +kernel) rfl rfl (c_X4_again (iN_lt _)  k4) dL_law_1046 rfl rfl (by decide) (by decide) (Nat.le_of_ble_eq_true rfl) ?_
  obtain ⟨-, -, gm, ow, tz, u22, u21, u15, u28⟩ := g.mdl hk (lo_again (iN (xs (i + 1))))
  refine V_aload_n (pc := 1049) dL_law_1049 rfl ?_
  refine V_aload_n (pc := 1050) dL_law_1050 rfl ?_
  refine V_iload_n (pc := 1051) dL_law_1051 rfl ?_
  refine V_iconst (pc := 1052) 1 dL_law_1052 (by decide) ?_
  refine V_iadd (pc := 1053) dL_law_1053 ?_
  refine V_sld (pc := 1054) hX (by omega) hL dL_law_1054 ?_
  refine V_callV_I (x := (agM (agX σ (iN (xs (i + 1)))).2 (iN (xs (i + 1)))).1) (τ := (agM (agX σ (iN (xs (i + 1)))).2 (iN (xs (i + 1)))).2) (pc := 1055) (k := 0) (ci := 5) (m := 0) ff_X5_again ml_L_134 (by decide +kernel) rfl rfl (c_X5_again (iN_lt _)  u15) dL_law_1055 rfl rfl (by decide) (by decide) (Nat.le_of_ble_eq_true rfl) ?_
  have hz := st_again g (iN (xs (i + 1)))
  exact V_icmpR_eq (pc := 1058) 1086 dL_law_1058 (by decide) (fun _ => J _ hz.2) (fun h => absurd (congrArg nI hz.1) h)
set_option maxHeartbeats 2000000 in
theorem lc_count (hX : SX E B sb L xs) (hL : L < 2 ^ 31) (h7 : i + 7 ≤ L) (g : SIM k σ) (hk : k ≤ 2 ^ 20) (J : ∀ w, SIM (k + 1) w → V E B RL cL_law 4 20 Q 1086 (lvL B sb i) [] w) : V E B RL cL_law 4 20 Q 1063 (lvL B sb i) [] σ := by
  obtain ⟨gx, ty, om, h48, n1, n2, k4, s64, l48, m6⟩ := g.cls hk
  refine V_aload_n (pc := 1063) dL_law_1063 rfl ?_
  refine V_aload_n (pc := 1064) dL_law_1064 rfl ?_
  refine V_iload_n (pc := 1065) dL_law_1065 rfl ?_
  refine V_iconst (pc := 1066) 1 dL_law_1066 (by decide) ?_
  refine V_iadd (pc := 1067) dL_law_1067 ?_
  refine V_sld (pc := 1068) hX (by omega) hL dL_law_1068 ?_
  refine V_callV_I (pc := 1069) (k := 17) (ci := 4) (m := 0) ff_X4_count ml_L_135 (by decide +kernel) rfl rfl (c_X4_count (iN_lt _)  gx) dL_law_1069 rfl rfl (by decide) (by decide) (Nat.le_of_ble_eq_true rfl) ?_
  obtain ⟨-, -, gm, ow, tz, u22, u21, u15, u28⟩ := g.mdl hk (u := σ) (fun _ _ => rfl)
  refine V_aload_n (pc := 1072) dL_law_1072 rfl ?_
  refine V_aload_n (pc := 1073) dL_law_1073 rfl ?_
  refine V_iload_n (pc := 1074) dL_law_1074 rfl ?_
  refine V_iconst (pc := 1075) 1 dL_law_1075 (by decide) ?_
  refine V_iadd (pc := 1076) dL_law_1076 ?_
  refine V_sld (pc := 1077) hX (by omega) hL dL_law_1077 ?_
  refine V_callV_I (pc := 1078) (k := 0) (ci := 5) (m := 0) ff_X5_count ml_L_138 (by decide +kernel) rfl rfl (c_X5_count (iN_lt _)  gm.1 gm.2.2.1 (Nat.lt_of_le_of_lt gm.2.2.2 (by decide))) dL_law_1078 rfl rfl (by decide) (by decide) (Nat.le_of_ble_eq_true rfl) ?_
  exact V_icmpR_eq (pc := 1081) 1086 dL_law_1081 (by decide) (fun _ => J _ (g.mono (Nat.le_succ k))) (fun h => absurd (congrArg nI (st_count g (iN (xs (i + 1))))) h)
end LC
