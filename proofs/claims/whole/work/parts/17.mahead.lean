/-! days to come, of the model -/
def GM (σ : St) : Prop := OKK σ ∧ σ 0 20 = 63 ∧ OKP (pM σ 0) ∧ pM σ 0 31 ≤ 2 ^ 20
theorem stM_put1 (σ : St) (P : Nat → Nat) (i x : Nat) : pt (stM σ 1 P) 6 (32 + i) x = stM σ 1 (fup P i x) := stM_put σ 1 P i x
theorem stM_get1 (σ : St) (P : Nat → Nat) (i : Nat) : stM σ 1 P 6 (32 + i) = P i := stM_get σ 1 P i
theorem stM_g38 (σ : St) (P : Nat → Nat) (c s : Nat) : stM σ 1 P 6 (38 + 5 * c + s) = P (6 + 5 * c + s) := by
  rw [show 38 + 5 * c + s = 32 + (6 + 5 * c + s) by omega, stM_get1]
theorem cp32_cong {P P' Q : Nat → Nat} (h : ∀ i, i < 32 → P i = P' i) : cp32 P Q = cp32 P' Q := by
  funext i
  unfold cp32
  split
  · exact h i (by assumption)
  · rfl
theorem pM0_st (σ : St) (T : Nat → Nat) (i : Nat) (h : i < 32) : pM (stM σ 1 T) 0 i = pM σ 0 i := by
  rw [pM0, pM0]
  unfold stM
  rw [if_neg (by omega)]
theorem c_X5_layTrial2 {B : Bk} {σ : St} {T : Nat → Nat} : MC yX5_layTrial cX5_layTrial 2 none 0 B [.ref (B.1 0)] (stM σ 1 T) (dV (stM σ 1 (cp32 (pM σ 0) T))) := by
  have h := c_X5_layTrial (B := B) (σ := stM σ 1 T)
  rw [pM_stM, stM_stM, cp32_cong (pM0_st σ T)] at h
  exact h
section NN
variable {E : EE} {B : Bk} {own : String} {cc : ByteArray} {nL d : Nat} {Q : State → Prop} {pc : Nat} {lv : List (Option Value)} {st : List Value} {σ : St}
theorem le_none {w m : Nat} (hw : w < 2 ^ 31) (hm : m = 4294967287 ∨ m < 2 ^ 31) : nI w ≤ nI m ↔ ¬ (m = 4294967287 ∨ m < w) := by
  rcases hm with rfl | hm
  · rw [Int32.le_iff_toInt_le, nI_toInt hw, nz_neg (by decide) (by decide)]; omega
  · rw [nI_leI hw hm]; omega
theorem V_icmpN_le {a b : Nat} {off : Int} (tgt : Nat) (hd : decode cc pc = .ok (.if_icmp .le off, 3)) (ht : (pc : Int) + off = (tgt : Int)) (ha : a < 2 ^ 31) (hb : b = 4294967287 ∨ b < 2 ^ 31) (kt : ¬ (b = 4294967287 ∨ b < a) → V E B own cc nL d Q tgt lv st σ) (kf : (b = 4294967287 ∨ b < a) → V E B own cc nL d Q (pc + 3) lv st σ) : V E B own cc nL d Q pc lv (.int (nI b) :: .int (nI a) :: st) σ :=
  V_icmpR_le tgt hd ht (fun h => kt ((le_none ha hb).mp h)) (fun h => kf (Classical.not_not.mp (fun q => h ((le_none ha hb).mpr q))))
end NN
def ahM (σ : St) (c s n : Nat) : Nat := if c < σ 0 2 ∧ s < 5 then (if n ≤ 20 then itr σ 63 (pM σ 0) n (6 + 5 * c + s) else 4294967294) else 4294967295
set_option maxHeartbeats 4000000 in
set_option maxRecDepth 100000 in
theorem c_X5_ahead {B : Bk} {σ : St} {c s n : Nat} (hc : c < 2 ^ 32) (hs : s < 2 ^ 32) (hn : n < 2 ^ 32) (g : GM σ) : MC yX5_ahead cX5_ahead 4 (some .int) 5 B [.ref (B.1 0), .int (nI c), .int (nI s), .int (nI n)] σ (rI (ahM σ c s n) (TR σ)) := by
  obtain ⟨o, ht, hp, hd⟩ := g
  obtain ⟨o0, o1, o2, o3, o4, o5⟩ := id o
  have ht64 : σ 0 20 < 64 := by omega
  have hTP : PEq (σ 0 2) (cp32 (pM σ 0) (pM σ 1)) (pM σ 0) := cp_PEq _ o2 _ _
  have hTO : OKP (cp32 (pM σ 0) (pM σ 1)) := cp_OKP hp _
  have hT31 : (cp32 (pM σ 0) (pM σ 1)) 31 = pM σ 0 31 := cp_lt (by decide)
  refine MC_int RX5 [some (.ref (B.1 0)), some (.int (nI c)), some (.int (nI s)), some (.int (nI n))] 0 (by decide +kernel) rfl rfl (Nat.le_of_ble_eq_true rfl) (fun E Q hret => ?_)
  refine V_aload_n (pc := 0) dX5_ahead_0 rfl ?_
  refine V_iload_n (pc := 1) dX5_ahead_1 rfl ?_
  refine V_callV_I (pc := 2) ff_X5_isChild ml_X5_153 (by first | rfl | assumption) rfl rfl (c_X5_isChild (by first | omega | assumption | exact and1_lt _ | exact nb_p) (by first | omega | assumption | exact and1_lt _ | exact nb_p)) dX5_ahead_2 rfl rfl (by decide) (by decide) (Nat.le_of_ble_eq_true rfl) ?_
  refine V_ifb_eq (pc := 5) 15 dX5_ahead_5 (by decide) (fun h_5 => ?_) (fun h_5 => ?_)
  · skip
    refine V_iconst (pc := 15) 4294967295 dX5_ahead_15 (by decide) ?_
    exact hret _ _ _ _ dX5_ahead_16 (rI_mk (by unfold ahM; (repeat' split) <;> first | (exfalso; omega) | rfl) (TR.rf σ))
  · skip
    refine V_iload_n (pc := 8) dX5_ahead_8 rfl ?_
    refine V_callS_I (pc := 9) ff_X5_isSubject ml_X5_156 (c_X5_isSubject (by first | omega | assumption | exact and1_lt _ | exact nb_p)) dX5_ahead_9 rfl rfl (by decide) (by decide) (Nat.le_of_ble_eq_true rfl) ?_
    refine V_ifb_ne (pc := 12) 17 dX5_ahead_12 (by decide) (fun h_12 => ?_) (fun h_12 => ?_)
    · skip
      refine V_iload_n (pc := 17) dX5_ahead_17 rfl ?_
      refine V_i2l (pc := 18) dX5_ahead_18 rfl ?_
      refine V_lconst (pc := 19) (v := lN 0) dX5_ahead_19 rfl ?_
      refine V_ldc2N (pc := 20) (m := 20) kl_X5_178 rfl dX5_ahead_20 ?_
      refine V_callS_I (pc := 23) ff_X5_in ml_X5_65 (c_X5_inI (by first | omega | assumption | exact and1_lt _ | exact nb_p) (by decide) (by decide)) dX5_ahead_23 rfl rfl (by decide) (by decide) (Nat.le_of_ble_eq_true rfl) ?_
      refine V_ifb_ne (pc := 26) 32 dX5_ahead_26 (by decide) (fun h_26 => ?_) (fun h_26 => ?_)
      · skip
        refine V_aload_n (pc := 32) dX5_ahead_32 rfl ?_
        refine V_callV_V (pc := 33) ff_X5_layTrial ml_X5_180 (by first | rfl | assumption) rfl rfl (c_X5_layTrial) dX5_ahead_33 rfl rfl (by decide) (by decide) (Nat.le_of_ble_eq_true rfl) ?_
        refine V_aload_n (pc := 36) dX5_ahead_36 rfl ?_
        refine V_iload_n (pc := 37) dX5_ahead_37 rfl ?_
        refine V_callV_V (pc := 38) ff_X5_goOn ml_X5_183 (by first | rfl | assumption) rfl rfl (c_X5_goOn2 o ht64 hTO (by rw [hT31]; omega)) dX5_ahead_38 rfl rfl (by decide) (by decide) (Nat.le_of_ble_eq_true rfl) ?_
        refine V_aload_n (pc := 41) dX5_ahead_41 rfl ?_
        refine G_X5_now (pc := 42) (by first | rfl | assumption) fl_X5_25 dX5_ahead_42 ?_
        refine V_bipush (pc := 45) 38 dX5_ahead_45 (by decide) ?_
        refine V_iconst (pc := 47) 5 dX5_ahead_47 (by decide) ?_
        refine V_iload_n (pc := 48) dX5_ahead_48 rfl ?_
        refine V_imul (pc := 49) dX5_ahead_49 ?_
        refine V_iadd (pc := 50) dX5_ahead_50 ?_
        refine V_iload_n (pc := 51) dX5_ahead_51 rfl ?_
        refine V_iadd (pc := 52) dX5_ahead_52 ?_
        refine V_iald (pc := 53) (by first | rfl | assumption) (by first | omega | assumption | exact and1_lt _ | exact nb_p) dX5_ahead_53 ?_
        rw [stM_g38, ht]
        exact hret _ _ _ _ dX5_ahead_54 (rI_mk (by unfold ahM; rw [if_pos ⟨by assumption, by assumption⟩, if_pos (by omega)]; exact (PEq_itr o hTP 63 n).2 _ (by omega) (by omega)) ⟨_, rfl⟩)
      · skip
        refine V_bipush (pc := 29) 4294967294 dX5_ahead_29 (by decide) ?_
        exact hret _ _ _ _ dX5_ahead_31 (rI_mk (by unfold ahM; (repeat' split) <;> first | (exfalso; omega) | rfl) (TR.rf σ))
    · skip
      refine V_iconst (pc := 15) 4294967295 dX5_ahead_15 (by decide) ?_
      exact hret _ _ _ _ dX5_ahead_16 (rI_mk (by unfold ahM; (repeat' split) <;> first | (exfalso; omega) | rfl) (TR.rf σ))
def laM (σ : St) (c n w : Nat) : Nat := if c < σ 0 2 then (if n ≤ 20 ∧ w ≤ 1 then (if w = 0 then itr σ 63 (pM σ 0) n c else wtF (itr σ 63 (pM σ 0) n) c 5) else 4294967294) else 4294967295
set_option maxHeartbeats 4000000 in
set_option maxRecDepth 100000 in
theorem c_X5_later {B : Bk} {σ : St} {c n w : Nat} (hc : c < 2 ^ 32) (hn : n < 2 ^ 32) (hw : w < 2 ^ 32) (g : GM σ) : MC yX5_later cX5_later 4 (some .int) 5 B [.ref (B.1 0), .int (nI c), .int (nI n), .int (nI w)] σ (rI (laM σ c n w) (TR σ)) := by
  obtain ⟨o, ht, hp, hd⟩ := g
  obtain ⟨o0, o1, o2, o3, o4, o5⟩ := id o
  have ht64 : σ 0 20 < 64 := by omega
  have hTP : PEq (σ 0 2) (cp32 (pM σ 0) (pM σ 1)) (pM σ 0) := cp_PEq _ o2 _ _
  have hTO : OKP (cp32 (pM σ 0) (pM σ 1)) := cp_OKP hp _
  have hT31 : (cp32 (pM σ 0) (pM σ 1)) 31 = pM σ 0 31 := cp_lt (by decide)
  refine MC_int RX5 [some (.ref (B.1 0)), some (.int (nI c)), some (.int (nI n)), some (.int (nI w))] 0 (by decide +kernel) rfl rfl (Nat.le_of_ble_eq_true rfl) (fun E Q hret => ?_)
  refine V_aload_n (pc := 0) dX5_later_0 rfl ?_
  refine V_iload_n (pc := 1) dX5_later_1 rfl ?_
  refine V_callV_I (pc := 2) ff_X5_isChild ml_X5_153 (by first | rfl | assumption) rfl rfl (c_X5_isChild (by first | omega | assumption | exact and1_lt _ | exact nb_p) (by first | omega | assumption | exact and1_lt _ | exact nb_p)) dX5_later_2 rfl rfl (by decide) (by decide) (Nat.le_of_ble_eq_true rfl) ?_
  refine V_ifb_ne (pc := 5) 10 dX5_later_5 (by decide) (fun h_5 => ?_) (fun h_5 => ?_)
  · skip
    refine V_iload_n (pc := 10) dX5_later_10 rfl ?_
    refine V_i2l (pc := 11) dX5_later_11 rfl ?_
    refine V_lconst (pc := 12) (v := lN 0) dX5_later_12 rfl ?_
    refine V_ldc2N (pc := 13) (m := 20) kl_X5_178 rfl dX5_later_13 ?_
    refine V_callS_I (pc := 16) ff_X5_in ml_X5_65 (c_X5_inI (by first | omega | assumption | exact and1_lt _ | exact nb_p) (by decide) (by decide)) dX5_later_16 rfl rfl (by decide) (by decide) (Nat.le_of_ble_eq_true rfl) ?_
    refine V_ifb_eq (pc := 19) 32 dX5_later_19 (by decide) (fun h_19 => ?_) (fun h_19 => ?_)
    · skip
      refine V_bipush (pc := 32) 4294967294 dX5_later_32 (by decide) ?_
      exact hret _ _ _ _ dX5_later_34 (rI_mk (by unfold laM; (repeat' split) <;> first | (exfalso; omega) | rfl) (TR.rf σ))
    · skip
      refine V_iload_n (pc := 22) dX5_later_22 rfl ?_
      refine V_i2l (pc := 23) dX5_later_23 rfl ?_
      refine V_lconst (pc := 24) (v := lN 0) dX5_later_24 rfl ?_
      refine V_lconst (pc := 25) (v := lN 1) dX5_later_25 rfl ?_
      refine V_callS_I (pc := 26) ff_X5_in ml_X5_65 (c_X5_inI (by first | omega | assumption | exact and1_lt _ | exact nb_p) (by decide) (by decide)) dX5_later_26 rfl rfl (by decide) (by decide) (Nat.le_of_ble_eq_true rfl) ?_
      refine V_ifb_ne (pc := 29) 35 dX5_later_29 (by decide) (fun h_29 => ?_) (fun h_29 => ?_)
      · skip
        refine V_aload_n (pc := 35) dX5_later_35 rfl ?_
        refine V_callV_V (pc := 36) ff_X5_layTrial ml_X5_180 (by first | rfl | assumption) rfl rfl (c_X5_layTrial) dX5_later_36 rfl rfl (by decide) (by decide) (Nat.le_of_ble_eq_true rfl) ?_
        refine V_aload_n (pc := 39) dX5_later_39 rfl ?_
        refine V_iload_n (pc := 40) dX5_later_40 rfl ?_
        refine V_callV_V (pc := 41) ff_X5_goOn ml_X5_183 (by first | rfl | assumption) rfl rfl (c_X5_goOn2 o ht64 hTO (by rw [hT31]; omega)) dX5_later_41 rfl rfl (by decide) (by decide) (Nat.le_of_ble_eq_true rfl) ?_
        refine V_iload_n (pc := 44) dX5_later_44 rfl ?_
        refine V_if_ne (pc := 45) 60 dX5_later_45 (by decide) (by first | omega | assumption | exact and1_lt _ | exact nb_p) (fun h_45 => ?_) (fun h_45 => ?_)
        · skip
          refine V_aload_n (pc := 60) dX5_later_60 rfl ?_
          refine V_iconst (pc := 61) 1 dX5_later_61 (by decide) ?_
          refine V_iload_n (pc := 62) dX5_later_62 rfl ?_
          refine V_callV_I (pc := 63) ff_X5_weightOn ml_X5_143 (by first | rfl | assumption) rfl rfl (c_X5_weightOn (by first | omega | assumption) (by first | omega | assumption)) dX5_later_63 rfl rfl (by decide) (by decide) (Nat.le_of_ble_eq_true rfl) ?_
          exact hret _ _ _ _ dX5_later_66 (rI_mk (by unfold laM; rw [if_pos (by assumption), if_pos (by omega)]; first | (rw [if_pos (by assumption)]; exact (PEq_itr o hTP 63 n).1 c (by assumption)) | (rw [if_neg (by assumption), pM_stM, ht]; exact wtF_cong (PEq_itr o hTP 63 n) (by omega) 5 (by omega))) ⟨_, rfl⟩)
        · skip
          refine V_aload_n (pc := 48) dX5_later_48 rfl ?_
          refine G_X5_now (pc := 49) (by first | rfl | assumption) fl_X5_25 dX5_later_49 ?_
          refine V_bipush (pc := 52) 32 dX5_later_52 (by decide) ?_
          refine V_iload_n (pc := 54) dX5_later_54 rfl ?_
          refine V_iadd (pc := 55) dX5_later_55 ?_
          refine V_iald (pc := 56) (by first | rfl | assumption) (by first | omega | assumption | exact and1_lt _ | exact nb_p) dX5_later_56 ?_
          rw [stM_get1, ht]
          refine V_goto (pc := 57) 66 dX5_later_57 (by decide) ?_
          exact hret _ _ _ _ dX5_later_66 (rI_mk (by unfold laM; rw [if_pos (by assumption), if_pos (by omega)]; first | (rw [if_pos (by assumption)]; exact (PEq_itr o hTP 63 n).1 c (by assumption)) | (rw [if_neg (by assumption), pM_stM, ht]; exact wtF_cong (PEq_itr o hTP 63 n) (by omega) 5 (by omega))) ⟨_, rfl⟩)
      · skip
        refine V_bipush (pc := 32) 4294967294 dX5_later_32 (by decide) ?_
        exact hret _ _ _ _ dX5_later_34 (rI_mk (by unfold laM; (repeat' split) <;> first | (exfalso; omega) | rfl) (TR.rf σ))
  · skip
    refine V_iconst (pc := 8) 4294967295 dX5_later_8 (by decide) ?_
    exact hret _ _ _ _ dX5_later_9 (rI_mk (by unfold laM; (repeat' split) <;> first | (exfalso; omega) | rfl) (TR.rf σ))
def enF (f : Nat → Nat) (v : Nat) : Nat → Nat → Nat
  | _, 0 => 4294967287
  | i, n + 1 => if v ≤ f i then i else enF f v (i + 1) n
theorem enF_step {f : Nat → Nat} {v i n : Nat} (h : i < n) : enF f v i (n - i) = if v ≤ f i then i else enF f v (i + 1) (n - (i + 1)) := by
  obtain ⟨k, hk⟩ : ∃ k, n - i = k + 1 := ⟨n - i - 1, by omega⟩
  rw [hk, show n - (i + 1) = k by omega]
  rfl
def enM (σ : St) (c s v : Nat) : Nat := if c < σ 0 2 ∧ s < 5 then (if 1 ≤ v ∧ v ≤ 9 then enF (fun i => itr σ 63 (pM σ 0) i (6 + 5 * c + s)) v 0 21 else 4294967294) else 4294967295
set_option maxHeartbeats 4000000 in
set_option maxRecDepth 100000 in
theorem c_X5_enough {B : Bk} {σ : St} {c s v : Nat} (hc : c < 2 ^ 32) (hs : s < 2 ^ 32) (hv : v < 2 ^ 32) (g : GM σ) : MC yX5_enough cX5_enough 5 (some .int) 4 B [.ref (B.1 0), .int (nI c), .int (nI s), .int (nI v)] σ (rI (enM σ c s v) (TR σ)) := by
  obtain ⟨o, ht, hp, hd⟩ := g
  obtain ⟨o0, o1, o2, o3, o4, o5⟩ := id o
  have ht64 : σ 0 20 < 64 := by omega
  have hTP : PEq (σ 0 2) (cp32 (pM σ 0) (pM σ 1)) (pM σ 0) := cp_PEq _ o2 _ _
  have hTO : OKP (cp32 (pM σ 0) (pM σ 1)) := cp_OKP hp _
  have hT31 : (cp32 (pM σ 0) (pM σ 1)) 31 = pM σ 0 31 := cp_lt (by decide)
  refine MC_int RX5 [some (.ref (B.1 0)), some (.int (nI c)), some (.int (nI s)), some (.int (nI v)), none] 1 (by decide +kernel) rfl rfl (Nat.le_of_ble_eq_true rfl) (fun E Q hret => ?_)
  refine V_aload_n (pc := 0) dX5_enough_0 rfl ?_
  refine V_iload_n (pc := 1) dX5_enough_1 rfl ?_
  refine V_callV_I (pc := 2) ff_X5_isChild ml_X5_153 (by first | rfl | assumption) rfl rfl (c_X5_isChild (by first | omega | assumption | exact and1_lt _ | exact nb_p) (by first | omega | assumption | exact and1_lt _ | exact nb_p)) dX5_enough_2 rfl rfl (by decide) (by decide) (Nat.le_of_ble_eq_true rfl) ?_
  refine V_ifb_eq (pc := 5) 15 dX5_enough_5 (by decide) (fun h_5 => ?_) (fun h_5 => ?_)
  · skip
    refine V_iconst (pc := 15) 4294967295 dX5_enough_15 (by decide) ?_
    exact hret _ _ _ _ dX5_enough_16 (rI_mk (by unfold enM; (repeat' split) <;> first | (exfalso; omega) | rfl) (TR.rf σ))
  · skip
    refine V_iload_n (pc := 8) dX5_enough_8 rfl ?_
    refine V_callS_I (pc := 9) ff_X5_isSubject ml_X5_156 (c_X5_isSubject (by first | omega | assumption | exact and1_lt _ | exact nb_p)) dX5_enough_9 rfl rfl (by decide) (by decide) (Nat.le_of_ble_eq_true rfl) ?_
    refine V_ifb_ne (pc := 12) 17 dX5_enough_12 (by decide) (fun h_12 => ?_) (fun h_12 => ?_)
    · skip
      refine V_iload_n (pc := 17) dX5_enough_17 rfl ?_
      refine V_i2l (pc := 18) dX5_enough_18 rfl ?_
      refine V_lconst (pc := 19) (v := lN 1) dX5_enough_19 rfl ?_
      refine V_ldc2N (pc := 20) (m := 9) kl_X5_186 rfl dX5_enough_20 ?_
      refine V_callS_I (pc := 23) ff_X5_in ml_X5_65 (c_X5_inI (by first | omega | assumption | exact and1_lt _ | exact nb_p) (by decide) (by decide)) dX5_enough_23 rfl rfl (by decide) (by decide) (Nat.le_of_ble_eq_true rfl) ?_
      refine V_ifb_ne (pc := 26) 32 dX5_enough_26 (by decide) (fun h_26 => ?_) (fun h_26 => ?_)
      · skip
        refine V_aload_n (pc := 32) dX5_enough_32 rfl ?_
        refine V_callV_V (pc := 33) ff_X5_layTrial ml_X5_180 (by first | rfl | assumption) rfl rfl (c_X5_layTrial) dX5_enough_33 rfl rfl (by decide) (by decide) (Nat.le_of_ble_eq_true rfl) ?_
        refine V_iconst (pc := 36) 0 dX5_enough_36 (by decide) ?_
        refine V_istore (pc := 37) dX5_enough_37 (by decide) rfl ?_
        have L_39 : ∀ (m : Nat) (i : Nat), 21 - i = m → i ≤ 21 → enM σ c s v = enF (fun i => itr σ 63 (pM σ 0) i (6 + 5 * c + s)) v i (21 - i) → V E B RX5 cX5_enough 5 4 Q 39 [some (.ref (B.1 0)), some (.int (nI c)), some (.int (nI s)), some (.int (nI v)), some (.int (nI i))] [] (stM σ 1 (itr σ 63 (cp32 (pM σ 0) (pM σ 1)) i)) := by
          intro m
          induction m using Nat.strongRecOn with
          | _ m ih =>
            intro i hm hi he
            have hv1 := (PEq_itr o hTP 63 i).2 (6 + 5 * c + s) (by omega) (by omega)
            have hv2 := (OKP_itr o hp 63 i).2.2 (5 * c + s) (by omega)
            rw [show 6 + (5 * c + s) = 6 + 5 * c + s by omega] at hv2
            refine V_iload (pc := 39) dX5_enough_39 rfl ?_
            refine V_bipush (pc := 41) 21 dX5_enough_41 (by decide) ?_
            refine V_icmp_ge (pc := 43) 78 dX5_enough_43 (by decide) (by first | omega | assumption | exact and1_lt _ | exact nb_p) (by first | omega | assumption | exact and1_lt _ | exact nb_p) (fun h_43 => ?_) (fun h_43 => ?_)
            · skip
              refine V_bipush (pc := 78) 4294967287 dX5_enough_78 (by decide) ?_
              exact hret _ _ _ _ dX5_enough_80 (rI_mk (by rw [he, show 21 - i = 0 by omega]; rfl) ⟨_, rfl⟩)
            · skip
              refine V_aload_n (pc := 46) dX5_enough_46 rfl ?_
              refine G_X5_now (pc := 47) (by first | rfl | assumption) fl_X5_25 dX5_enough_47 ?_
              refine V_bipush (pc := 50) 38 dX5_enough_50 (by decide) ?_
              refine V_iconst (pc := 52) 5 dX5_enough_52 (by decide) ?_
              refine V_iload_n (pc := 53) dX5_enough_53 rfl ?_
              refine V_imul (pc := 54) dX5_enough_54 ?_
              refine V_iadd (pc := 55) dX5_enough_55 ?_
              refine V_iload_n (pc := 56) dX5_enough_56 rfl ?_
              refine V_iadd (pc := 57) dX5_enough_57 ?_
              refine V_iald (pc := 58) (by first | rfl | assumption) (by first | omega | assumption | exact and1_lt _ | exact nb_p) dX5_enough_58 ?_
              rw [stM_g38, hv1]
              refine V_iload_n (pc := 59) dX5_enough_59 rfl ?_
              refine V_icmp_lt (pc := 60) 66 dX5_enough_60 (by decide) (by first | omega | assumption | exact and1_lt _ | exact nb_p) (by first | omega | assumption | exact and1_lt _ | exact nb_p) (fun h_60 => ?_) (fun h_60 => ?_)
              · skip
                refine V_aload_n (pc := 66) dX5_enough_66 rfl ?_
                refine V_iconst (pc := 67) 1 dX5_enough_67 (by decide) ?_
                refine V_iconst (pc := 68) 1 dX5_enough_68 (by decide) ?_
                refine V_callV_V (pc := 69) ff_X5_passOn ml_X5_165 (by first | rfl | assumption) rfl rfl (c_X5_passOn2 (z := 1) o ht64 (by decide) (by decide) (OKP_itr o hTO _ _) (by rw [itr_31 o, hT31]; omega)) dX5_enough_69 rfl rfl (by decide) (by decide) (Nat.le_of_ble_eq_true rfl) ?_
                refine V_iinc (pc := 72) 1 dX5_enough_72 (by decide) rfl (by decide) rfl ?_
                refine V_goto (pc := 75) 39 dX5_enough_75 (by decide) ?_
                rw [ht]
                exact ih _ (by omega) (i + 1) rfl (by omega) (by rw [he, enF_step (by omega), if_neg (by omega)])
              · skip
                refine V_iload (pc := 63) dX5_enough_63 rfl ?_
                exact hret _ _ _ _ dX5_enough_65 (rI_mk (by rw [he, enF_step (by omega), if_pos (by omega)]) ⟨_, rfl⟩)
        have e := L_39 _ 0 rfl (by omega) (by unfold enM; rw [if_pos ⟨by assumption, by assumption⟩, if_pos (by assumption)])
        exact e
      · skip
        refine V_bipush (pc := 29) 4294967294 dX5_enough_29 (by decide) ?_
        exact hret _ _ _ _ dX5_enough_31 (rI_mk (by unfold enM; (repeat' split) <;> first | (exfalso; omega) | rfl) (TR.rf σ))
    · skip
      refine V_iconst (pc := 15) 4294967295 dX5_enough_15 (by decide) ?_
      exact hret _ _ _ _ dX5_enough_16 (rI_mk (by unfold enM; (repeat' split) <;> first | (exfalso; omega) | rfl) (TR.rf σ))
def bsF (f : Nat → Nat) : Nat → Nat × Nat
  | 0 => (4294967287, 4294967287)
  | n + 1 => if (bsF f n).2 = 4294967287 ∨ (bsF f n).2 < f n then (n, f n) else bsF f n
theorem bsF_s (f : Nat → Nat) (n : Nat) : bsF f (n + 1) = if (bsF f n).2 = 4294967287 ∨ (bsF f n).2 < f n then (n, f n) else bsF f n := rfl
theorem bsF_le {f : Nat → Nat} {b : Nat} (h : ∀ i, f i ≤ b) : ∀ n, (bsF f n).2 = 4294967287 ∨ (bsF f n).2 ≤ b
  | 0 => Or.inl rfl
  | n + 1 => by
    rw [bsF_s]
    split
    · exact Or.inr (h n)
    · exact bsF_le h n
/-- weight of a child in n days, set in a cell now -/
def bsW (K : St) (P : Nat → Nat) (c n cell : Nat) : Nat := wtF (itr K 63 (fup P c cell) n) c 5
def beM (σ : St) (c n w : Nat) : Nat := if c < σ 0 2 then (if (1 ≤ n ∧ n ≤ 12) ∧ w ≤ 1 then (if w = 0 then (bsF (bsW σ (pM σ 0) c n) 12).1 else (bsF (bsW σ (pM σ 0) c n) 12).2) else 4294967294) else 4294967295
set_option maxHeartbeats 4000000 in
set_option maxRecDepth 100000 in
theorem c_X5_best {B : Bk} {σ : St} {c n w : Nat} (hc : c < 2 ^ 32) (hn : n < 2 ^ 32) (hw : w < 2 ^ 32) (g : GM σ) : MC yX5_best cX5_best 8 (some .int) 5 B [.ref (B.1 0), .int (nI c), .int (nI n), .int (nI w)] σ (rI (beM σ c n w) (TR σ)) := by
  obtain ⟨o, ht, hp, hd⟩ := g
  obtain ⟨o0, o1, o2, o3, o4, o5⟩ := id o
  have ht64 : σ 0 20 < 64 := by omega
  refine MC_int RX5 [some (.ref (B.1 0)), some (.int (nI c)), some (.int (nI n)), some (.int (nI w)), none, none, none, none] 4 (by decide +kernel) rfl rfl (Nat.le_of_ble_eq_true rfl) (fun E Q hret => ?_)
  refine V_aload_n (pc := 0) dX5_best_0 rfl ?_
  refine V_iload_n (pc := 1) dX5_best_1 rfl ?_
  refine V_callV_I (pc := 2) ff_X5_isChild ml_X5_153 (by first | rfl | assumption) rfl rfl (c_X5_isChild (by first | omega | assumption | exact and1_lt _ | exact nb_p) (by first | omega | assumption | exact and1_lt _ | exact nb_p)) dX5_best_2 rfl rfl (by decide) (by decide) (Nat.le_of_ble_eq_true rfl) ?_
  refine V_ifb_ne (pc := 5) 10 dX5_best_5 (by decide) (fun h_5 => ?_) (fun h_5 => ?_)
  · skip
    refine V_iload_n (pc := 10) dX5_best_10 rfl ?_
    refine V_i2l (pc := 11) dX5_best_11 rfl ?_
    refine V_lconst (pc := 12) (v := lN 1) dX5_best_12 rfl ?_
    refine V_ldc2N (pc := 13) (m := 12) kl_X5_188 rfl dX5_best_13 ?_
    refine V_callS_I (pc := 16) ff_X5_in ml_X5_65 (c_X5_inI (by first | omega | assumption | exact and1_lt _ | exact nb_p) (by decide) (by decide)) dX5_best_16 rfl rfl (by decide) (by decide) (Nat.le_of_ble_eq_true rfl) ?_
    refine V_ifb_eq (pc := 19) 32 dX5_best_19 (by decide) (fun h_19 => ?_) (fun h_19 => ?_)
    · skip
      refine V_bipush (pc := 32) 4294967294 dX5_best_32 (by decide) ?_
      exact hret _ _ _ _ dX5_best_34 (rI_mk (by unfold beM; (repeat' split) <;> first | (exfalso; omega) | rfl) (TR.rf σ))
    · skip
      refine V_iload_n (pc := 22) dX5_best_22 rfl ?_
      refine V_i2l (pc := 23) dX5_best_23 rfl ?_
      refine V_lconst (pc := 24) (v := lN 0) dX5_best_24 rfl ?_
      refine V_lconst (pc := 25) (v := lN 1) dX5_best_25 rfl ?_
      refine V_callS_I (pc := 26) ff_X5_in ml_X5_65 (c_X5_inI (by first | omega | assumption | exact and1_lt _ | exact nb_p) (by decide) (by decide)) dX5_best_26 rfl rfl (by decide) (by decide) (Nat.le_of_ble_eq_true rfl) ?_
      refine V_ifb_ne (pc := 29) 35 dX5_best_29 (by decide) (fun h_29 => ?_) (fun h_29 => ?_)
      · skip
        refine V_bipush (pc := 35) 4294967287 dX5_best_35 (by decide) ?_
        refine V_istore (pc := 37) dX5_best_37 (by decide) rfl ?_
        refine V_bipush (pc := 39) 4294967287 dX5_best_39 (by decide) ?_
        refine V_istore (pc := 41) dX5_best_41 (by decide) rfl ?_
        refine V_iconst (pc := 43) 0 dX5_best_43 (by decide) ?_
        refine V_istore (pc := 44) dX5_best_44 (by decide) rfl ?_
        have L_46 : ∀ (m : Nat) (i b mo : Nat) (z : Option Value) (T : Nat → Nat), 12 - i = m → i ≤ 12 → (b, mo) = bsF (bsW σ (pM σ 0) c n) i → (mo = 4294967287 ∨ mo ≤ 45) → okS [some (.ref (B.1 0)), none, none, none, none, none, none, z] 7 = true → V E B RX5 cX5_best 8 5 Q 46 [some (.ref (B.1 0)), some (.int (nI c)), some (.int (nI n)), some (.int (nI w)), some (.int (nI b)), some (.int (nI mo)), some (.int (nI i)), z] [] (stM σ 1 T) := by
          intro m
          induction m using Nat.strongRecOn with
          | _ m ih =>
            intro i b mo z T hm hi hbm hmm hz
            have h1 : PEq (σ 0 2) (cp32 (pM σ 0) T) (pM σ 0) := cp_PEq _ o2 _ _
            have h2 : OKP (cp32 (pM σ 0) T) := cp_OKP hp _
            have h3 : cp32 (pM σ 0) T 31 = pM σ 0 31 := cp_lt (by decide)
            have hb1 : b = (bsF (bsW σ (pM σ 0) c n) i).1 := by rw [← hbm]
            have hb2 : mo = (bsF (bsW σ (pM σ 0) c n) i).2 := by rw [← hbm]
            refine V_iload (pc := 46) dX5_best_46 rfl ?_
            refine V_bipush (pc := 48) 12 dX5_best_48 (by decide) ?_
            refine V_icmp_ge (pc := 50) 119 dX5_best_50 (by decide) (by first | omega | assumption | exact and1_lt _ | exact nb_p) (by first | omega | assumption | exact and1_lt _ | exact nb_p) (fun h_50 => ?_) (fun h_50 => ?_)
            · skip
              refine V_iload_n (pc := 119) dX5_best_119 rfl ?_
              refine V_if_ne (pc := 120) 128 dX5_best_120 (by decide) (by first | omega | assumption | exact and1_lt _ | exact nb_p) (fun h_120 => ?_) (fun h_120 => ?_)
              · skip
                refine V_iload (pc := 128) dX5_best_128 rfl ?_
                exact hret _ _ _ _ dX5_best_130 (rI_mk (by unfold beM; rw [if_pos (by assumption), if_pos ⟨by assumption, by omega⟩]; first | (rw [if_pos (by assumption), hb1, show i = 12 by omega]) | (rw [if_neg (by assumption), hb2, show i = 12 by omega])) ⟨_, rfl⟩)
              · skip
                refine V_iload (pc := 123) dX5_best_123 rfl ?_
                refine V_goto (pc := 125) 130 dX5_best_125 (by decide) ?_
                exact hret _ _ _ _ dX5_best_130 (rI_mk (by unfold beM; rw [if_pos (by assumption), if_pos ⟨by assumption, by omega⟩]; first | (rw [if_pos (by assumption), hb1, show i = 12 by omega]) | (rw [if_neg (by assumption), hb2, show i = 12 by omega])) ⟨_, rfl⟩)
            · skip
              refine V_aload_n (pc := 53) dX5_best_53 rfl ?_
              refine V_callV_V (pc := 54) ff_X5_layTrial ml_X5_180 (by first | rfl | assumption) rfl rfl (c_X5_layTrial2) dX5_best_54 rfl rfl (by decide) (by decide) (Nat.le_of_ble_eq_true rfl) ?_
              refine V_aload_n (pc := 57) dX5_best_57 rfl ?_
              refine G_X5_now (pc := 58) (by first | rfl | assumption) fl_X5_25 dX5_best_58 ?_
              refine V_bipush (pc := 61) 32 dX5_best_61 (by decide) ?_
              refine V_iload_n (pc := 63) dX5_best_63 rfl ?_
              refine V_iadd (pc := 64) dX5_best_64 ?_
              refine V_iload (pc := 65) dX5_best_65 rfl ?_
              refine V_iast (pc := 67) (by first | rfl | assumption) (by first | omega | assumption | exact and1_lt _ | exact nb_p) dX5_best_67 ?_
              rw [stM_put1]
              refine V_aload_n (pc := 68) dX5_best_68 rfl ?_
              refine V_iload_n (pc := 69) dX5_best_69 rfl ?_
              refine V_callV_V (pc := 70) ff_X5_goOn ml_X5_183 (by first | rfl | assumption) rfl rfl (c_X5_goOn2 o ht64 (OKP_fup h2 (by omega) (by omega) (by omega)) (by rw [fup_o (by omega), h3]; omega)) dX5_best_70 rfl rfl (by decide) (by decide) (Nat.le_of_ble_eq_true rfl) ?_
              refine V_aload_n (pc := 73) dX5_best_73 rfl ?_
              refine V_iconst (pc := 74) 1 dX5_best_74 (by decide) ?_
              refine V_iload_n (pc := 75) dX5_best_75 rfl ?_
              refine V_callV_I (pc := 76) ff_X5_weightOn ml_X5_143 (by first | rfl | assumption) rfl rfl (c_X5_weightOn (by first | omega | assumption) (by first | omega | assumption)) dX5_best_76 rfl rfl (by decide) (by decide) (Nat.le_of_ble_eq_true rfl) ?_
              rw [pM_stM, ht, show wtF (itr σ 63 (fup (cp32 (pM σ 0) T) c i) n) c 5 = bsW σ (pM σ 0) c n i from wtF_cong (PEq_itr o (h1.up rfl) 63 n) (by omega) 5 (by omega)]
              have hW : bsW σ (pM σ 0) c n i ≤ 45 := wtF_le (OKP_itr o (OKP_fup hp (by omega) (by omega) (by omega)) 63 n) (by omega) 5 (by omega)
              refine V_istore (pc := 79) dX5_best_79 (by decide) rfl ?_
              refine V_iload (pc := 81) dX5_best_81 rfl ?_
              refine V_iload (pc := 83) dX5_best_83 rfl ?_
              refine V_icmpN_le (pc := 85) 93 dX5_best_85 (by decide) (by omega) (by omega) (fun h_85 => ?_) (fun h_85 => ?_)
              · skip
                refine V_iload (pc := 93) dX5_best_93 rfl ?_
                refine V_istore (pc := 95) dX5_best_95 (by decide) rfl ?_
                refine V_iload (pc := 97) dX5_best_97 rfl ?_
                refine V_iload (pc := 99) dX5_best_99 rfl ?_
                refine V_icmpN_le (pc := 101) 109 dX5_best_101 (by decide) (by omega) (by omega) (fun h_101 => ?_) (fun h_101 => ?_)
                · skip
                  refine V_iload (pc := 109) dX5_best_109 rfl ?_
                  refine V_istore (pc := 111) dX5_best_111 (by decide) rfl ?_
                  refine V_iinc (pc := 113) 1 dX5_best_113 (by decide) rfl (by decide) rfl ?_
                  refine V_goto (pc := 116) 46 dX5_best_116 (by decide) ?_
                  exact ih _ (by omega) (i + 1) _ _ _ _ rfl (by omega) (by first | (exfalso; omega) | (rw [bsF_s, ← hb2]; first | rw [if_pos (by assumption)] | rw [if_neg (by assumption), ← hbm])) (by omega) rfl
                · skip
                  refine V_iload (pc := 104) dX5_best_104 rfl ?_
                  refine V_goto (pc := 106) 111 dX5_best_106 (by decide) ?_
                  refine V_istore (pc := 111) dX5_best_111 (by decide) rfl ?_
                  refine V_iinc (pc := 113) 1 dX5_best_113 (by decide) rfl (by decide) rfl ?_
                  refine V_goto (pc := 116) 46 dX5_best_116 (by decide) ?_
                  exact ih _ (by omega) (i + 1) _ _ _ _ rfl (by omega) (by first | (exfalso; omega) | (rw [bsF_s, ← hb2]; first | rw [if_pos (by assumption)] | rw [if_neg (by assumption), ← hbm])) (by omega) rfl
              · skip
                refine V_iload (pc := 88) dX5_best_88 rfl ?_
                refine V_goto (pc := 90) 95 dX5_best_90 (by decide) ?_
                refine V_istore (pc := 95) dX5_best_95 (by decide) rfl ?_
                refine V_iload (pc := 97) dX5_best_97 rfl ?_
                refine V_iload (pc := 99) dX5_best_99 rfl ?_
                refine V_icmpN_le (pc := 101) 109 dX5_best_101 (by decide) (by omega) (by omega) (fun h_101 => ?_) (fun h_101 => ?_)
                · skip
                  refine V_iload (pc := 109) dX5_best_109 rfl ?_
                  refine V_istore (pc := 111) dX5_best_111 (by decide) rfl ?_
                  refine V_iinc (pc := 113) 1 dX5_best_113 (by decide) rfl (by decide) rfl ?_
                  refine V_goto (pc := 116) 46 dX5_best_116 (by decide) ?_
                  exact ih _ (by omega) (i + 1) _ _ _ _ rfl (by omega) (by first | (exfalso; omega) | (rw [bsF_s, ← hb2]; first | rw [if_pos (by assumption)] | rw [if_neg (by assumption), ← hbm])) (by omega) rfl
                · skip
                  refine V_iload (pc := 104) dX5_best_104 rfl ?_
                  refine V_goto (pc := 106) 111 dX5_best_106 (by decide) ?_
                  refine V_istore (pc := 111) dX5_best_111 (by decide) rfl ?_
                  refine V_iinc (pc := 113) 1 dX5_best_113 (by decide) rfl (by decide) rfl ?_
                  refine V_goto (pc := 116) 46 dX5_best_116 (by decide) ?_
                  exact ih _ (by omega) (i + 1) _ _ _ _ rfl (by omega) (by first | (exfalso; omega) | (rw [bsF_s, ← hb2]; first | rw [if_pos (by assumption)] | rw [if_neg (by assumption), ← hbm])) (by omega) rfl
        have e := L_46 _ 0 _ _ none (pM σ 1) rfl (by omega) rfl (Or.inl rfl) rfl
        rw [stM_self] at e
        exact e
      · skip
        refine V_bipush (pc := 32) 4294967294 dX5_best_32 (by decide) ?_
        exact hret _ _ _ _ dX5_best_34 (rI_mk (by unfold beM; (repeat' split) <;> first | (exfalso; omega) | rfl) (TR.rf σ))
  · skip
    refine V_iconst (pc := 8) 4294967295 dX5_best_8 (by decide) ?_
    exact hret _ _ _ _ dX5_best_9 (rI_mk (by unfold beM; (repeat' split) <;> first | (exfalso; omega) | rfl) (TR.rf σ))
