/-! days to come, of the class -/
def TQ (σ u : St) : Prop := ∃ T, OKP T ∧ Z32 T ∧ u = stX σ 48 T
def ahG (K : St) (P : Nat → Nat) (c s n : Nat) : Nat := if c < K 0 2 ∧ s < 5 then (if n ≤ 20 then itr K 63 P n (6 + 5 * c + s) else 4294967294) else 4294967295
def laG (K : St) (P : Nat → Nat) (c n w : Nat) : Nat := if c < K 0 2 then (if n ≤ 20 ∧ w ≤ 1 then (if w = 0 then itr K 63 P n c else wtF (itr K 63 P n) c 5) else 4294967294) else 4294967295
def enG (K : St) (P : Nat → Nat) (c s v : Nat) : Nat := if c < K 0 2 ∧ s < 5 then (if 1 ≤ v ∧ v ≤ 9 then enF (fun i => itr K 63 P i (6 + 5 * c + s)) v 0 21 else 4294967294) else 4294967295
def beG (K : St) (P : Nat → Nat) (c n w : Nat) : Nat := if c < K 0 2 then (if (1 ≤ n ∧ n ≤ 12) ∧ w ≤ 1 then (if w = 0 then (bsF (bsW K P c n) 12).1 else (bsF (bsW K P c n) 12).2) else 4294967294) else 4294967295
theorem TQ.rf {σ : St} (h : OKP (pX σ 48)) : TQ σ σ := ⟨_, h, Z_pX σ 48, (stX_self σ 48).symm⟩
theorem pX45 (σ : St) (T : Nat → Nat) : pX (stX σ 48 T) 45 = pX σ 45 := pX_same (stX_o (by decide) (by decide) (by decide)) (stX_o (by decide) (by decide) (by decide)) (stX_o (by decide) (by decide) (by decide))
theorem c_take48 {B : Bk} {σ : St} {T : Nat → Nat} : MC yX3_take cX3_take 3 none 1 B [.ref (B.1 48), .ref (B.1 45)] (stX σ 48 T) (dV (stX σ 48 (pX σ 45))) := by
  have h := c_X3_take (B := B) (σ := stX σ 48 T) (k := 48) (j := 45) rfl rfl (by decide)
  rw [stX_stX, pX45] at h
  exact h
theorem KX02 (σ : St) (b : Nat) : KX σ b 0 2 = σ b 9 := rfl
theorem KX01 (σ : St) (b : Nat) : KX σ b 0 1 = σ b 8 := rfl
theorem KX00 (σ : St) (b : Nat) : KX σ b 0 0 = σ b 7 := rfl
section N1
variable {E : EE} {B : Bk} {own : String} {cc : ByteArray} {nL d : Nat} {Q : State → Prop} {pc : Nat} {lv : List (Option Value)} {st : List Value} {σ : St}
theorem lt_sg {a b : Nat} (ha : a < 2 ^ 32) (hb : b < 2 ^ 31) : nI a < nI b ↔ (2 ^ 31 ≤ a ∨ a < b) := by
  rcases (show a < 2 ^ 31 ∨ 2 ^ 31 ≤ a by omega) with h | h
  · rw [nI_ltI h hb]; omega
  · rw [Int32.lt_iff_toInt_lt, nI_toInt hb, nz_neg h ha]; omega
theorem V_icmpZ_lt {a b : Nat} {off : Int} (tgt : Nat) (hd : decode cc pc = .ok (.if_icmp .lt off, 3)) (ht : (pc : Int) + off = (tgt : Int)) (ha : a < 2 ^ 32) (hb : b < 2 ^ 31) (kt : (2 ^ 31 ≤ a ∨ a < b) → V E B own cc nL d Q tgt lv st σ) (kf : ¬ (2 ^ 31 ≤ a ∨ a < b) → V E B own cc nL d Q (pc + 3) lv st σ) : V E B own cc nL d Q pc lv (.int (nI b) :: .int (nI a) :: st) σ :=
  V_icmpR_lt tgt hd ht (fun h => kt ((lt_sg ha hb).mp h)) (fun h => kf (fun q => h ((lt_sg ha hb).mpr q)))
end N1
set_option maxHeartbeats 4000000 in
set_option maxRecDepth 100000 in
theorem c_X4_tryDays {B : Bk} {σ : St} {n : Nat} (hn : n ≤ 20) (g : GX σ) : MC yX4_tryDays cX4_tryDays 2 none 5 B [.ref (B.1 17), .int (nI n)] σ (dV (stX σ 48 (itr (KX σ (σ 17 2)) 63 (pX σ 45) n))) := by
  obtain ⟨hx, hp, hd⟩ := id g
  have hb := hx.1
  obtain ⟨b1, b2, b3, b4, b5, b6, b7, b8⟩ := kd3' hb
  obtain ⟨o0, o1, o2, o3, o4, o5⟩ := id hx.2.1.1
  have n7 : σ (σ 17 2) 7 ≤ 4 := o0
  have n8 : σ (σ 17 2) 8 ≤ 6 := o1
  have n9 : σ (σ 17 2) 9 ≤ 5 := o2
  have hc5 : ∀ i, i < 5 → σ (45 + 1) i < 12 := fun i h => by have := hp.1 i h; rw [pX_c h] at this; exact this
  have hm5 : σ 45 2 < 32 := hp.2.1
  have hd3 : σ 45 3 ≤ 2 ^ 20 := hd
  have hgc : ∀ i, i < σ (σ 17 2) 8 → σ (σ 17 2 + 2) i < 12 := fun i h => (o4 i h).1
  have e02 : KX σ (σ 17 2) 0 2 = σ (σ 17 2) 9 := rfl
  have e01 : KX σ (σ 17 2) 0 1 = σ (σ 17 2) 8 := rfl
  have o : OKK (KX σ (σ 17 2)) := hx.2.1.1
  have s17 : ∀ {T : Nat → Nat}, stX σ 48 T 17 = σ 17 := fun {T} => stX_o (by decide) (by decide) (by decide)
  refine MC_void RX4 [some (.ref (B.1 17)), some (.int (nI n))] 0 (by decide +kernel) rfl rfl (Nat.le_of_ble_eq_true rfl) (fun E Q hret => ?_)
  refine V_aload_n (pc := 0) dX4_tryDays_0 rfl ?_
  refine G_X4_trial (pc := 1) (by first | rfl | assumption) fl_X4_30 dX4_tryDays_1 ?_
  refine V_aload_n (pc := 4) dX4_tryDays_4 rfl ?_
  refine G_X4_now (pc := 5) (by first | rfl | assumption) fl_X4_26 dX4_tryDays_5 ?_
  refine V_callV_V (pc := 8) ff_X3_take ml_X4_170 (by first | rfl | assumption) rfl rfl (c_X3_take (k := 48) (j := 45) rfl rfl (by decide)) dX4_tryDays_8 rfl rfl (by decide) (by decide) (Nat.le_of_ble_eq_true rfl) ?_
  refine V_aload_n (pc := 11) dX4_tryDays_11 rfl ?_
  refine G_X4_trial (pc := 12) (by first | rfl | assumption) fl_X4_30 dX4_tryDays_12 ?_
  refine V_aload_n (pc := 15) dX4_tryDays_15 rfl ?_
  refine G_X4_shore (pc := 16) (by first | rfl | assumption) fl_X4_16 dX4_tryDays_16 ?_
  refine V_iload_n (pc := 19) dX4_tryDays_19 rfl ?_
  rw [s17]
  refine V_callV_V (pc := 20) ff_X3_passDays ml_X4_173 (by first | rfl | assumption) rfl rfl (c_X3_passDays2 (k := 48) rfl hx (Z_pX σ 45) hp (by omega)) dX4_tryDays_20 rfl rfl (by decide) (by decide) (Nat.le_of_ble_eq_true rfl) ?_
  exact hret _ _ _ dX4_tryDays_23 (dV_mk rfl)
set_option maxHeartbeats 4000000 in
set_option maxRecDepth 100000 in
theorem c_X4_ahead {B : Bk} {σ : St} {c s n : Nat} (hc : c < 2 ^ 32) (hs : s < 2 ^ 32) (hn : n < 2 ^ 32) (g : GX σ) (h48 : OKP (pX σ 48)) : MC yX4_ahead cX4_ahead 4 (some .int) 6 B [.ref (B.1 17), .int (nI c), .int (nI s), .int (nI n)] σ (rI (ahG (KX σ (σ 17 2)) (pX σ 45) c s n) (TQ σ)) := by
  obtain ⟨hx, hp, hd⟩ := id g
  have hb := hx.1
  obtain ⟨b1, b2, b3, b4, b5, b6, b7, b8⟩ := kd3' hb
  obtain ⟨o0, o1, o2, o3, o4, o5⟩ := id hx.2.1.1
  have n7 : σ (σ 17 2) 7 ≤ 4 := o0
  have n8 : σ (σ 17 2) 8 ≤ 6 := o1
  have n9 : σ (σ 17 2) 9 ≤ 5 := o2
  have hc5 : ∀ i, i < 5 → σ (45 + 1) i < 12 := fun i h => by have := hp.1 i h; rw [pX_c h] at this; exact this
  have hm5 : σ 45 2 < 32 := hp.2.1
  have hd3 : σ 45 3 ≤ 2 ^ 20 := hd
  have hgc : ∀ i, i < σ (σ 17 2) 8 → σ (σ 17 2 + 2) i < 12 := fun i h => (o4 i h).1
  have e02 : KX σ (σ 17 2) 0 2 = σ (σ 17 2) 9 := rfl
  have e01 : KX σ (σ 17 2) 0 1 = σ (σ 17 2) 8 := rfl
  have o : OKK (KX σ (σ 17 2)) := hx.2.1.1
  have s17 : ∀ {T : Nat → Nat}, stX σ 48 T 17 = σ 17 := fun {T} => stX_o (by decide) (by decide) (by decide)
  refine MC_int RX4 [some (.ref (B.1 17)), some (.int (nI c)), some (.int (nI s)), some (.int (nI n))] 0 (by decide +kernel) rfl rfl (Nat.le_of_ble_eq_true rfl) (fun E Q hret => ?_)
  refine V_aload_n (pc := 0) dX4_ahead_0 rfl ?_
  refine V_iload_n (pc := 1) dX4_ahead_1 rfl ?_
  refine V_callV_I (pc := 2) ff_X4_isChild ml_X4_115 (by first | rfl | assumption) rfl rfl (c_X4_isChild (by assumption) (by first | omega | assumption | exact and1_lt _ | exact nb_p) (by omega)) dX4_ahead_2 rfl rfl (by decide) (by decide) (Nat.le_of_ble_eq_true rfl) ?_
  refine V_ifb_eq (pc := 5) 15 dX4_ahead_5 (by decide) (fun h_5 => ?_) (fun h_5 => ?_)
  · skip
    refine V_iconst (pc := 15) 4294967295 dX4_ahead_15 (by decide) ?_
    exact hret _ _ _ _ dX4_ahead_16 (rI_mk (by unfold ahG; (repeat' split) <;> first | (exfalso; omega) | rfl) (TQ.rf h48))
  · skip
    refine V_iload_n (pc := 8) dX4_ahead_8 rfl ?_
    refine V_callS_I (pc := 9) ff_X4_isSubject ml_X4_134 (c_X4_isSubject (by first | omega | assumption | exact and1_lt _ | exact nb_p)) dX4_ahead_9 rfl rfl (by decide) (by decide) (Nat.le_of_ble_eq_true rfl) ?_
    refine V_ifb_ne (pc := 12) 17 dX4_ahead_12 (by decide) (fun h_12 => ?_) (fun h_12 => ?_)
    · skip
      refine V_iload_n (pc := 17) dX4_ahead_17 rfl ?_
      refine V_if_lt (pc := 18) 27 dX4_ahead_18 (by decide) (by first | omega | assumption | exact and1_lt _ | exact nb_p) (fun h_18 => ?_) (fun h_18 => ?_)
      · skip
        refine V_bipush (pc := 27) 4294967294 dX4_ahead_27 (by decide) ?_
        exact hret _ _ _ _ dX4_ahead_29 (rI_mk (by unfold ahG; (repeat' split) <;> first | (exfalso; omega) | rfl) (TQ.rf h48))
      · skip
        refine V_iload_n (pc := 21) dX4_ahead_21 rfl ?_
        refine V_bipush (pc := 22) 20 dX4_ahead_22 (by decide) ?_
        refine V_icmp_le (pc := 24) 30 dX4_ahead_24 (by decide) (by first | omega | assumption | exact and1_lt _ | exact nb_p) (by first | omega | assumption | exact and1_lt _ | exact nb_p) (fun h_24 => ?_) (fun h_24 => ?_)
        · skip
          refine V_aload_n (pc := 30) dX4_ahead_30 rfl ?_
          refine V_iload_n (pc := 31) dX4_ahead_31 rfl ?_
          refine V_callV_V (pc := 32) ff_X4_tryDays ml_X4_167 (by first | rfl | assumption) rfl rfl (c_X4_tryDays (by omega) g) dX4_ahead_32 rfl rfl (by decide) (by decide) (Nat.le_of_ble_eq_true rfl) ?_
          refine V_aload_n (pc := 35) dX4_ahead_35 rfl ?_
          refine G_X4_trial (pc := 36) (by first | rfl | assumption) fl_X4_30 dX4_ahead_36 ?_
          refine V_iload_n (pc := 39) dX4_ahead_39 rfl ?_
          refine V_iload_n (pc := 40) dX4_ahead_40 rfl ?_
          refine V_callV_I (pc := 41) ff_X3_known ml_X4_137 (by first | rfl | assumption) rfl rfl (c_X3_known (k := 48) rfl (by omega) (by omega)) dX4_ahead_41 rfl rfl (by decide) (by decide) (Nat.le_of_ble_eq_true rfl) ?_
          rw [stX_n _ _ _ (by omega)]
          exact hret _ _ _ _ dX4_ahead_44 (rI_mk (by unfold ahG; rw [if_pos (by omega), if_pos (by omega), show 6 + 5 * c + s = 6 + (c * 5 + s) by omega]) ⟨_, OKP_itr o hp 63 _, Z_itr o (Z_pX σ 45) 63 _, rfl⟩)
        · skip
          refine V_bipush (pc := 27) 4294967294 dX4_ahead_27 (by decide) ?_
          exact hret _ _ _ _ dX4_ahead_29 (rI_mk (by unfold ahG; (repeat' split) <;> first | (exfalso; omega) | rfl) (TQ.rf h48))
    · skip
      refine V_iconst (pc := 15) 4294967295 dX4_ahead_15 (by decide) ?_
      exact hret _ _ _ _ dX4_ahead_16 (rI_mk (by unfold ahG; (repeat' split) <;> first | (exfalso; omega) | rfl) (TQ.rf h48))
set_option maxHeartbeats 4000000 in
set_option maxRecDepth 100000 in
theorem c_X4_later {B : Bk} {σ : St} {c n w : Nat} (hc : c < 2 ^ 32) (hn : n < 2 ^ 32) (hw : w < 2 ^ 32) (g : GX σ) (h48 : OKP (pX σ 48)) : MC yX4_later cX4_later 4 (some .int) 6 B [.ref (B.1 17), .int (nI c), .int (nI n), .int (nI w)] σ (rI (laG (KX σ (σ 17 2)) (pX σ 45) c n w) (TQ σ)) := by
  obtain ⟨hx, hp, hd⟩ := id g
  have hb := hx.1
  obtain ⟨b1, b2, b3, b4, b5, b6, b7, b8⟩ := kd3' hb
  obtain ⟨o0, o1, o2, o3, o4, o5⟩ := id hx.2.1.1
  have n7 : σ (σ 17 2) 7 ≤ 4 := o0
  have n8 : σ (σ 17 2) 8 ≤ 6 := o1
  have n9 : σ (σ 17 2) 9 ≤ 5 := o2
  have hc5 : ∀ i, i < 5 → σ (45 + 1) i < 12 := fun i h => by have := hp.1 i h; rw [pX_c h] at this; exact this
  have hm5 : σ 45 2 < 32 := hp.2.1
  have hd3 : σ 45 3 ≤ 2 ^ 20 := hd
  have hgc : ∀ i, i < σ (σ 17 2) 8 → σ (σ 17 2 + 2) i < 12 := fun i h => (o4 i h).1
  have e02 : KX σ (σ 17 2) 0 2 = σ (σ 17 2) 9 := rfl
  have e01 : KX σ (σ 17 2) 0 1 = σ (σ 17 2) 8 := rfl
  have o : OKK (KX σ (σ 17 2)) := hx.2.1.1
  have s17 : ∀ {T : Nat → Nat}, stX σ 48 T 17 = σ 17 := fun {T} => stX_o (by decide) (by decide) (by decide)
  refine MC_int RX4 [some (.ref (B.1 17)), some (.int (nI c)), some (.int (nI n)), some (.int (nI w))] 0 (by decide +kernel) rfl rfl (Nat.le_of_ble_eq_true rfl) (fun E Q hret => ?_)
  refine V_aload_n (pc := 0) dX4_later_0 rfl ?_
  refine V_iload_n (pc := 1) dX4_later_1 rfl ?_
  refine V_callV_I (pc := 2) ff_X4_isChild ml_X4_115 (by first | rfl | assumption) rfl rfl (c_X4_isChild (by assumption) (by first | omega | assumption | exact and1_lt _ | exact nb_p) (by omega)) dX4_later_2 rfl rfl (by decide) (by decide) (Nat.le_of_ble_eq_true rfl) ?_
  refine V_ifb_ne (pc := 5) 10 dX4_later_5 (by decide) (fun h_5 => ?_) (fun h_5 => ?_)
  · skip
    refine V_iload_n (pc := 10) dX4_later_10 rfl ?_
    refine V_if_lt (pc := 11) 29 dX4_later_11 (by decide) (by first | omega | assumption | exact and1_lt _ | exact nb_p) (fun h_11 => ?_) (fun h_11 => ?_)
    · skip
      refine V_bipush (pc := 29) 4294967294 dX4_later_29 (by decide) ?_
      exact hret _ _ _ _ dX4_later_31 (rI_mk (by unfold laG; (repeat' split) <;> first | (exfalso; omega) | rfl) (TQ.rf h48))
    · skip
      refine V_iload_n (pc := 14) dX4_later_14 rfl ?_
      refine V_bipush (pc := 15) 20 dX4_later_15 (by decide) ?_
      refine V_icmp_gt (pc := 17) 29 dX4_later_17 (by decide) (by first | omega | assumption | exact and1_lt _ | exact nb_p) (by first | omega | assumption | exact and1_lt _ | exact nb_p) (fun h_17 => ?_) (fun h_17 => ?_)
      · skip
        refine V_bipush (pc := 29) 4294967294 dX4_later_29 (by decide) ?_
        exact hret _ _ _ _ dX4_later_31 (rI_mk (by unfold laG; (repeat' split) <;> first | (exfalso; omega) | rfl) (TQ.rf h48))
      · skip
        refine V_iload_n (pc := 20) dX4_later_20 rfl ?_
        refine V_if_lt (pc := 21) 29 dX4_later_21 (by decide) (by first | omega | assumption | exact and1_lt _ | exact nb_p) (fun h_21 => ?_) (fun h_21 => ?_)
        · skip
          refine V_bipush (pc := 29) 4294967294 dX4_later_29 (by decide) ?_
          exact hret _ _ _ _ dX4_later_31 (rI_mk (by unfold laG; (repeat' split) <;> first | (exfalso; omega) | rfl) (TQ.rf h48))
        · skip
          refine V_iload_n (pc := 24) dX4_later_24 rfl ?_
          refine V_iconst (pc := 25) 1 dX4_later_25 (by decide) ?_
          refine V_icmp_le (pc := 26) 32 dX4_later_26 (by decide) (by first | omega | assumption | exact and1_lt _ | exact nb_p) (by first | omega | assumption | exact and1_lt _ | exact nb_p) (fun h_26 => ?_) (fun h_26 => ?_)
          · skip
            refine V_aload_n (pc := 32) dX4_later_32 rfl ?_
            refine V_iload_n (pc := 33) dX4_later_33 rfl ?_
            refine V_callV_V (pc := 34) ff_X4_tryDays ml_X4_167 (by first | rfl | assumption) rfl rfl (c_X4_tryDays (by omega) g) dX4_later_34 rfl rfl (by decide) (by decide) (Nat.le_of_ble_eq_true rfl) ?_
            refine V_iload_n (pc := 37) dX4_later_37 rfl ?_
            refine V_if_ne (pc := 38) 55 dX4_later_38 (by decide) (by first | omega | assumption | exact and1_lt _ | exact nb_p) (fun h_38 => ?_) (fun h_38 => ?_)
            · skip
              refine V_aload_n (pc := 55) dX4_later_55 rfl ?_
              refine G_X4_trial (pc := 56) (by first | rfl | assumption) fl_X4_30 dX4_later_56 ?_
              refine V_iload_n (pc := 59) dX4_later_59 rfl ?_
              refine V_callV_I (pc := 60) ff_X3_weight ml_X4_127 (by first | rfl | assumption) rfl rfl (c_X3_weight (k := 48) rfl (by omega)) dX4_later_60 rfl rfl (by decide) (by decide) (Nat.le_of_ble_eq_true rfl) ?_
              exact hret _ _ _ _ dX4_later_63 (rI_mk (by unfold laG; rw [if_pos (by omega), if_pos (by omega)]; first | (rw [if_pos (by omega)]; done) | (rw [if_neg (by omega), pX_stX _ _ (Z_itr o (Z_pX σ 45) 63 _)])) ⟨_, OKP_itr o hp 63 _, Z_itr o (Z_pX σ 45) 63 _, rfl⟩)
            · skip
              refine V_aload_n (pc := 41) dX4_later_41 rfl ?_
              refine G_X4_trial (pc := 42) (by first | rfl | assumption) fl_X4_30 dX4_later_42 ?_
              refine G_X3_cells (pc := 45) (by first | rfl | assumption) fl_X4_118 dX4_later_45 ?_
              refine V_iload_n (pc := 48) dX4_later_48 rfl ?_
              refine V_callS_I (pc := 49) ff_X4_at ml_X4_101 (c_X4_atI (n := 5) rfl (by omega)) dX4_later_49 rfl rfl (by decide) (by decide) (Nat.le_of_ble_eq_true rfl) ?_
              rw [stX_c _ _ _ (by omega)]
              refine V_goto (pc := 52) 63 dX4_later_52 (by decide) ?_
              exact hret _ _ _ _ dX4_later_63 (rI_mk (by unfold laG; rw [if_pos (by omega), if_pos (by omega)]; first | (rw [if_pos (by omega)]; done) | (rw [if_neg (by omega), pX_stX _ _ (Z_itr o (Z_pX σ 45) 63 _)])) ⟨_, OKP_itr o hp 63 _, Z_itr o (Z_pX σ 45) 63 _, rfl⟩)
          · skip
            refine V_bipush (pc := 29) 4294967294 dX4_later_29 (by decide) ?_
            exact hret _ _ _ _ dX4_later_31 (rI_mk (by unfold laG; (repeat' split) <;> first | (exfalso; omega) | rfl) (TQ.rf h48))
  · skip
    refine V_iconst (pc := 8) 4294967295 dX4_later_8 (by decide) ?_
    exact hret _ _ _ _ dX4_later_9 (rI_mk (by unfold laG; (repeat' split) <;> first | (exfalso; omega) | rfl) (TQ.rf h48))
set_option maxHeartbeats 4000000 in
set_option maxRecDepth 100000 in
theorem c_X4_enough {B : Bk} {σ : St} {c s v : Nat} (hc : c < 2 ^ 32) (hs : s < 2 ^ 32) (hv : v < 2 ^ 32) (g : GX σ) (h48 : OKP (pX σ 48)) : MC yX4_enough cX4_enough 5 (some .int) 4 B [.ref (B.1 17), .int (nI c), .int (nI s), .int (nI v)] σ (rI (enG (KX σ (σ 17 2)) (pX σ 45) c s v) (TQ σ)) := by
  obtain ⟨hx, hp, hd⟩ := id g
  have hb := hx.1
  obtain ⟨b1, b2, b3, b4, b5, b6, b7, b8⟩ := kd3' hb
  obtain ⟨o0, o1, o2, o3, o4, o5⟩ := id hx.2.1.1
  have n7 : σ (σ 17 2) 7 ≤ 4 := o0
  have n8 : σ (σ 17 2) 8 ≤ 6 := o1
  have n9 : σ (σ 17 2) 9 ≤ 5 := o2
  have hc5 : ∀ i, i < 5 → σ (45 + 1) i < 12 := fun i h => by have := hp.1 i h; rw [pX_c h] at this; exact this
  have hm5 : σ 45 2 < 32 := hp.2.1
  have hd3 : σ 45 3 ≤ 2 ^ 20 := hd
  have hgc : ∀ i, i < σ (σ 17 2) 8 → σ (σ 17 2 + 2) i < 12 := fun i h => (o4 i h).1
  have e02 : KX σ (σ 17 2) 0 2 = σ (σ 17 2) 9 := rfl
  have e01 : KX σ (σ 17 2) 0 1 = σ (σ 17 2) 8 := rfl
  have o : OKK (KX σ (σ 17 2)) := hx.2.1.1
  have s17 : ∀ {T : Nat → Nat}, stX σ 48 T 17 = σ 17 := fun {T} => stX_o (by decide) (by decide) (by decide)
  refine MC_int RX4 [some (.ref (B.1 17)), some (.int (nI c)), some (.int (nI s)), some (.int (nI v)), none] 1 (by decide +kernel) rfl rfl (Nat.le_of_ble_eq_true rfl) (fun E Q hret => ?_)
  refine V_aload_n (pc := 0) dX4_enough_0 rfl ?_
  refine V_iload_n (pc := 1) dX4_enough_1 rfl ?_
  refine V_callV_I (pc := 2) ff_X4_isChild ml_X4_115 (by first | rfl | assumption) rfl rfl (c_X4_isChild (by assumption) (by first | omega | assumption | exact and1_lt _ | exact nb_p) (by omega)) dX4_enough_2 rfl rfl (by decide) (by decide) (Nat.le_of_ble_eq_true rfl) ?_
  refine V_ifb_eq (pc := 5) 15 dX4_enough_5 (by decide) (fun h_5 => ?_) (fun h_5 => ?_)
  · skip
    refine V_iconst (pc := 15) 4294967295 dX4_enough_15 (by decide) ?_
    exact hret _ _ _ _ dX4_enough_16 (rI_mk (by unfold enG; (repeat' split) <;> first | (exfalso; omega) | rfl) (TQ.rf h48))
  · skip
    refine V_iload_n (pc := 8) dX4_enough_8 rfl ?_
    refine V_callS_I (pc := 9) ff_X4_isSubject ml_X4_134 (c_X4_isSubject (by first | omega | assumption | exact and1_lt _ | exact nb_p)) dX4_enough_9 rfl rfl (by decide) (by decide) (Nat.le_of_ble_eq_true rfl) ?_
    refine V_ifb_ne (pc := 12) 17 dX4_enough_12 (by decide) (fun h_12 => ?_) (fun h_12 => ?_)
    · skip
      refine V_iload_n (pc := 17) dX4_enough_17 rfl ?_
      refine V_iconst (pc := 18) 1 dX4_enough_18 (by decide) ?_
      refine V_icmpZ_lt (pc := 19) 28 dX4_enough_19 (by decide) hv (by decide) (fun h_19 => ?_) (fun h_19 => ?_)
      · skip
        refine V_bipush (pc := 28) 4294967294 dX4_enough_28 (by decide) ?_
        exact hret _ _ _ _ dX4_enough_30 (rI_mk (by unfold enG; (repeat' split) <;> first | (exfalso; omega) | rfl) (TQ.rf h48))
      · skip
        refine V_iload_n (pc := 22) dX4_enough_22 rfl ?_
        refine V_bipush (pc := 23) 9 dX4_enough_23 (by decide) ?_
        refine V_icmp_le (pc := 25) 31 dX4_enough_25 (by decide) (by first | omega | assumption | exact and1_lt _ | exact nb_p) (by first | omega | assumption | exact and1_lt _ | exact nb_p) (fun h_25 => ?_) (fun h_25 => ?_)
        · skip
          refine V_aload_n (pc := 31) dX4_enough_31 rfl ?_
          refine G_X4_trial (pc := 32) (by first | rfl | assumption) fl_X4_30 dX4_enough_32 ?_
          refine V_aload_n (pc := 35) dX4_enough_35 rfl ?_
          refine G_X4_now (pc := 36) (by first | rfl | assumption) fl_X4_26 dX4_enough_36 ?_
          refine V_callV_V (pc := 39) ff_X3_take ml_X4_170 (by first | rfl | assumption) rfl rfl (c_X3_take (k := 48) (j := 45) rfl rfl (by decide)) dX4_enough_39 rfl rfl (by decide) (by decide) (Nat.le_of_ble_eq_true rfl) ?_
          refine V_iconst (pc := 42) 0 dX4_enough_42 (by decide) ?_
          refine V_istore (pc := 43) dX4_enough_43 (by decide) rfl ?_
          have L_45 : ∀ (m : Nat) (i : Nat), 21 - i = m → i ≤ 21 → enG (KX σ (σ 17 2)) (pX σ 45) c s v = enF (fun i => itr (KX σ (σ 17 2)) 63 (pX σ 45) i (6 + 5 * c + s)) v i (21 - i) → V E B RX4 cX4_enough 5 4 Q 45 [some (.ref (B.1 17)), some (.int (nI c)), some (.int (nI s)), some (.int (nI v)), some (.int (nI i))] [] (stX σ 48 (itr (KX σ (σ 17 2)) 63 (pX σ 45) i)) := by
            intro m
            induction m using Nat.strongRecOn with
            | _ m ih =>
              intro i hm hi he
              have hv2 := (OKP_itr o hp 63 i).2.2 (c * 5 + s) (by omega)
              refine V_iload (pc := 45) dX4_enough_45 rfl ?_
              refine V_bipush (pc := 47) 20 dX4_enough_47 (by decide) ?_
              refine V_icmp_gt (pc := 49) 88 dX4_enough_49 (by decide) (by first | omega | assumption | exact and1_lt _ | exact nb_p) (by first | omega | assumption | exact and1_lt _ | exact nb_p) (fun h_49 => ?_) (fun h_49 => ?_)
              · skip
                refine V_bipush (pc := 88) 4294967287 dX4_enough_88 (by decide) ?_
                exact hret _ _ _ _ dX4_enough_90 (rI_mk (by rw [he, show 21 - i = 0 by omega]; rfl) ⟨_, OKP_itr o hp 63 _, Z_itr o (Z_pX σ 45) 63 _, rfl⟩)
              · skip
                refine V_aload_n (pc := 52) dX4_enough_52 rfl ?_
                refine G_X4_trial (pc := 53) (by first | rfl | assumption) fl_X4_30 dX4_enough_53 ?_
                refine V_iload_n (pc := 56) dX4_enough_56 rfl ?_
                refine V_iload_n (pc := 57) dX4_enough_57 rfl ?_
                refine V_callV_I (pc := 58) ff_X3_known ml_X4_137 (by first | rfl | assumption) rfl rfl (c_X3_known (k := 48) rfl (by omega) (by omega)) dX4_enough_58 rfl rfl (by decide) (by decide) (Nat.le_of_ble_eq_true rfl) ?_
                rw [stX_n _ _ _ (by omega)]
                refine V_iload_n (pc := 61) dX4_enough_61 rfl ?_
                refine V_icmp_lt (pc := 62) 68 dX4_enough_62 (by decide) (by first | omega | assumption | exact and1_lt _ | exact nb_p) (by first | omega | assumption | exact and1_lt _ | exact nb_p) (fun h_62 => ?_) (fun h_62 => ?_)
                · skip
                  refine V_aload_n (pc := 68) dX4_enough_68 rfl ?_
                  refine G_X4_trial (pc := 69) (by first | rfl | assumption) fl_X4_30 dX4_enough_69 ?_
                  refine V_aload_n (pc := 72) dX4_enough_72 rfl ?_
                  refine G_X4_shore (pc := 73) (by first | rfl | assumption) fl_X4_16 dX4_enough_73 ?_
                  refine V_iconst (pc := 76) 1 dX4_enough_76 (by decide) ?_
                  refine V_bipush (pc := 77) 63 dX4_enough_77 (by decide) ?_
                  rw [s17]
                  refine V_callV_V (pc := 79) ff_X3_pass ml_X4_144 (by first | rfl | assumption) rfl rfl (c_X3_pass2 (k := 48) (z := 1) (th := 63) rfl hx (Z_itr o (Z_pX σ 45) 63 i) (OKP_itr o hp 63 i) (by decide) (by decide) (by rw [itr_31 o]; omega)) dX4_enough_79 rfl rfl (by decide) (by decide) (Nat.le_of_ble_eq_true rfl) ?_
                  refine V_iinc (pc := 82) 1 dX4_enough_82 (by decide) rfl (by decide) rfl ?_
                  refine V_goto (pc := 85) 45 dX4_enough_85 (by decide) ?_
                  exact ih _ (by omega) (i + 1) rfl (by omega) (by rw [he, enF_step (by omega), if_neg (by rw [show 6 + 5 * c + s = 6 + (c * 5 + s) by omega]; omega)])
                · skip
                  refine V_iload (pc := 65) dX4_enough_65 rfl ?_
                  exact hret _ _ _ _ dX4_enough_67 (rI_mk (by rw [he, enF_step (by omega), if_pos (by rw [show 6 + 5 * c + s = 6 + (c * 5 + s) by omega]; omega)]) ⟨_, OKP_itr o hp 63 _, Z_itr o (Z_pX σ 45) 63 _, rfl⟩)
          exact L_45 _ 0 rfl (by omega) (by unfold enG; rw [if_pos ⟨by omega, by omega⟩, if_pos (by omega)])
        · skip
          refine V_bipush (pc := 28) 4294967294 dX4_enough_28 (by decide) ?_
          exact hret _ _ _ _ dX4_enough_30 (rI_mk (by unfold enG; (repeat' split) <;> first | (exfalso; omega) | rfl) (TQ.rf h48))
    · skip
      refine V_iconst (pc := 15) 4294967295 dX4_enough_15 (by decide) ?_
      exact hret _ _ _ _ dX4_enough_16 (rI_mk (by unfold enG; (repeat' split) <;> first | (exfalso; omega) | rfl) (TQ.rf h48))
section NN
variable {E : EE} {B : Bk} {own : String} {cc : ByteArray} {nL d : Nat} {Q : State → Prop} {pc : Nat} {lv : List (Option Value)} {st : List Value} {σ : St}
theorem le_m1 {w m : Nat} (hw : w < 2 ^ 31) (hm : m = 4294967295 ∨ m < 2 ^ 31) : nI w ≤ nI m ↔ ¬ (m = 4294967295 ∨ m < w) := by
  rcases hm with rfl | hm
  · rw [Int32.le_iff_toInt_le, nI_toInt hw, nz_neg (by decide) (by decide)]; omega
  · rw [nI_leI hw hm]; omega
theorem V_icmpM_le {a b : Nat} {off : Int} (tgt : Nat) (hd : decode cc pc = .ok (.if_icmp .le off, 3)) (ht : (pc : Int) + off = (tgt : Int)) (ha : a < 2 ^ 31) (hb : b = 4294967295 ∨ b < 2 ^ 31) (kt : ¬ (b = 4294967295 ∨ b < a) → V E B own cc nL d Q tgt lv st σ) (kf : (b = 4294967295 ∨ b < a) → V E B own cc nL d Q (pc + 3) lv st σ) : V E B own cc nL d Q pc lv (.int (nI b) :: .int (nI a) :: st) σ :=
  V_icmpR_le tgt hd ht (fun h => kt ((le_m1 ha hb).mp h)) (fun h => kf (Classical.not_not.mp (fun q => h ((le_m1 ha hb).mpr q))))
end NN
set_option maxHeartbeats 4000000 in
set_option maxRecDepth 100000 in
theorem c_X4_best {B : Bk} {σ : St} {c n w : Nat} (hc : c < 2 ^ 32) (hn : n < 2 ^ 32) (hw : w < 2 ^ 32) (g : GX σ) (h48 : OKP (pX σ 48)) : MC yX4_best cX4_best 8 (some .int) 5 B [.ref (B.1 17), .int (nI c), .int (nI n), .int (nI w)] σ (rI (beG (KX σ (σ 17 2)) (pX σ 45) c n w) (TQ σ)) := by
  obtain ⟨hx, hp, hd⟩ := id g
  have hb := hx.1
  obtain ⟨b1, b2, b3, b4, b5, b6, b7, b8⟩ := kd3' hb
  obtain ⟨o0, o1, o2, o3, o4, o5⟩ := id hx.2.1.1
  have n7 : σ (σ 17 2) 7 ≤ 4 := o0
  have n8 : σ (σ 17 2) 8 ≤ 6 := o1
  have n9 : σ (σ 17 2) 9 ≤ 5 := o2
  have hc5 : ∀ i, i < 5 → σ (45 + 1) i < 12 := fun i h => by have := hp.1 i h; rw [pX_c h] at this; exact this
  have hm5 : σ 45 2 < 32 := hp.2.1
  have hd3 : σ 45 3 ≤ 2 ^ 20 := hd
  have hgc : ∀ i, i < σ (σ 17 2) 8 → σ (σ 17 2 + 2) i < 12 := fun i h => (o4 i h).1
  have e02 : KX σ (σ 17 2) 0 2 = σ (σ 17 2) 9 := rfl
  have e01 : KX σ (σ 17 2) 0 1 = σ (σ 17 2) 8 := rfl
  have o : OKK (KX σ (σ 17 2)) := hx.2.1.1
  have s17 : ∀ {T : Nat → Nat}, stX σ 48 T 17 = σ 17 := fun {T} => stX_o (by decide) (by decide) (by decide)
  refine MC_int RX4 [some (.ref (B.1 17)), some (.int (nI c)), some (.int (nI n)), some (.int (nI w)), none, none, none, none] 4 (by decide +kernel) rfl rfl (Nat.le_of_ble_eq_true rfl) (fun E Q hret => ?_)
  refine V_aload_n (pc := 0) dX4_best_0 rfl ?_
  refine V_iload_n (pc := 1) dX4_best_1 rfl ?_
  refine V_callV_I (pc := 2) ff_X4_isChild ml_X4_115 (by first | rfl | assumption) rfl rfl (c_X4_isChild (by assumption) (by first | omega | assumption | exact and1_lt _ | exact nb_p) (by omega)) dX4_best_2 rfl rfl (by decide) (by decide) (Nat.le_of_ble_eq_true rfl) ?_
  refine V_ifb_ne (pc := 5) 10 dX4_best_5 (by decide) (fun h_5 => ?_) (fun h_5 => ?_)
  · skip
    refine V_iload_n (pc := 10) dX4_best_10 rfl ?_
    refine V_iconst (pc := 11) 1 dX4_best_11 (by decide) ?_
    refine V_icmpZ_lt (pc := 12) 30 dX4_best_12 (by decide) hn (by decide) (fun h_12 => ?_) (fun h_12 => ?_)
    · skip
      refine V_bipush (pc := 30) 4294967294 dX4_best_30 (by decide) ?_
      exact hret _ _ _ _ dX4_best_32 (rI_mk (by unfold beG; (repeat' split) <;> first | (exfalso; omega) | rfl) (TQ.rf h48))
    · skip
      refine V_iload_n (pc := 15) dX4_best_15 rfl ?_
      refine V_bipush (pc := 16) 12 dX4_best_16 (by decide) ?_
      refine V_icmp_gt (pc := 18) 30 dX4_best_18 (by decide) (by first | omega | assumption | exact and1_lt _ | exact nb_p) (by first | omega | assumption | exact and1_lt _ | exact nb_p) (fun h_18 => ?_) (fun h_18 => ?_)
      · skip
        refine V_bipush (pc := 30) 4294967294 dX4_best_30 (by decide) ?_
        exact hret _ _ _ _ dX4_best_32 (rI_mk (by unfold beG; (repeat' split) <;> first | (exfalso; omega) | rfl) (TQ.rf h48))
      · skip
        refine V_iload_n (pc := 21) dX4_best_21 rfl ?_
        refine V_if_lt (pc := 22) 30 dX4_best_22 (by decide) (by first | omega | assumption | exact and1_lt _ | exact nb_p) (fun h_22 => ?_) (fun h_22 => ?_)
        · skip
          refine V_bipush (pc := 30) 4294967294 dX4_best_30 (by decide) ?_
          exact hret _ _ _ _ dX4_best_32 (rI_mk (by unfold beG; (repeat' split) <;> first | (exfalso; omega) | rfl) (TQ.rf h48))
        · skip
          refine V_iload_n (pc := 25) dX4_best_25 rfl ?_
          refine V_iconst (pc := 26) 1 dX4_best_26 (by decide) ?_
          refine V_icmp_le (pc := 27) 33 dX4_best_27 (by decide) (by first | omega | assumption | exact and1_lt _ | exact nb_p) (by first | omega | assumption | exact and1_lt _ | exact nb_p) (fun h_27 => ?_) (fun h_27 => ?_)
          · skip
            refine V_iconst (pc := 33) 0 dX4_best_33 (by decide) ?_
            refine V_istore (pc := 34) dX4_best_34 (by decide) rfl ?_
            refine V_iconst (pc := 36) 4294967295 dX4_best_36 (by decide) ?_
            refine V_istore (pc := 37) dX4_best_37 (by decide) rfl ?_
            refine V_iconst (pc := 39) 0 dX4_best_39 (by decide) ?_
            refine V_istore (pc := 40) dX4_best_40 (by decide) rfl ?_
            have L_42 : ∀ (m : Nat) (i b mo : Nat) (z : Option Value) (T : Nat → Nat), 12 - i = m → i ≤ 12 → ((i = 0 ∧ b = 0 ∧ mo = 4294967295) ∨ (1 ≤ i ∧ (b, mo) = bsF (bsW (KX σ (σ 17 2)) (pX σ 45) c n) i ∧ mo ≤ 45)) → OKP T → Z32 T → okS [some (.ref (B.1 0)), none, none, none, none, none, none, z] 7 = true → V E B RX4 cX4_best 8 5 Q 42 [some (.ref (B.1 17)), some (.int (nI c)), some (.int (nI n)), some (.int (nI w)), some (.int (nI b)), some (.int (nI mo)), some (.int (nI i)), z] [] (stX σ 48 T) := by
              intro m
              induction m using Nat.strongRecOn with
              | _ m ih =>
                intro i b mo z T hm hi hbm hT1 hT2 hz
                refine V_iload (pc := 42) dX4_best_42 rfl ?_
                refine V_bipush (pc := 44) 12 dX4_best_44 (by decide) ?_
                refine V_icmp_ge (pc := 46) 116 dX4_best_46 (by decide) (by first | omega | assumption | exact and1_lt _ | exact nb_p) (by first | omega | assumption | exact and1_lt _ | exact nb_p) (fun h_46 => ?_) (fun h_46 => ?_)
                · skip
                  refine V_iload_n (pc := 116) dX4_best_116 rfl ?_
                  refine V_if_ne (pc := 117) 125 dX4_best_117 (by decide) (by first | omega | assumption | exact and1_lt _ | exact nb_p) (fun h_117 => ?_) (fun h_117 => ?_)
                  · skip
                    refine V_iload (pc := 125) dX4_best_125 rfl ?_
                    exact hret _ _ _ _ dX4_best_127 (rI_mk (by rcases hbm with ⟨h1, h2, h3⟩ | ⟨h1, h2, h3⟩; (exfalso; omega); have hb1 : b = (bsF (bsW (KX σ (σ 17 2)) (pX σ 45) c n) i).1 := (by rw [← h2]); have hb2 : mo = (bsF (bsW (KX σ (σ 17 2)) (pX σ 45) c n) i).2 := (by rw [← h2]); unfold beG; rw [if_pos (by omega), if_pos ⟨by omega, by omega⟩]; first | (rw [if_pos (by omega), hb1, show i = 12 by omega]; done) | (rw [if_neg (by omega), hb2, show i = 12 by omega])) ⟨_, hT1, hT2, rfl⟩)
                  · skip
                    refine V_iload (pc := 120) dX4_best_120 rfl ?_
                    refine V_goto (pc := 122) 127 dX4_best_122 (by decide) ?_
                    exact hret _ _ _ _ dX4_best_127 (rI_mk (by rcases hbm with ⟨h1, h2, h3⟩ | ⟨h1, h2, h3⟩; (exfalso; omega); have hb1 : b = (bsF (bsW (KX σ (σ 17 2)) (pX σ 45) c n) i).1 := (by rw [← h2]); have hb2 : mo = (bsF (bsW (KX σ (σ 17 2)) (pX σ 45) c n) i).2 := (by rw [← h2]); unfold beG; rw [if_pos (by omega), if_pos ⟨by omega, by omega⟩]; first | (rw [if_pos (by omega), hb1, show i = 12 by omega]; done) | (rw [if_neg (by omega), hb2, show i = 12 by omega])) ⟨_, hT1, hT2, rfl⟩)
                · skip
                  refine V_aload_n (pc := 49) dX4_best_49 rfl ?_
                  refine G_X4_trial (pc := 50) (by first | rfl | assumption) fl_X4_30 dX4_best_50 ?_
                  refine V_aload_n (pc := 53) dX4_best_53 rfl ?_
                  refine G_X4_now (pc := 54) (by first | rfl | assumption) fl_X4_26 dX4_best_54 ?_
                  refine V_callV_V (pc := 57) ff_X3_take ml_X4_170 (by first | rfl | assumption) rfl rfl (c_take48) dX4_best_57 rfl rfl (by decide) (by decide) (Nat.le_of_ble_eq_true rfl) ?_
                  refine V_aload_n (pc := 60) dX4_best_60 rfl ?_
                  refine G_X4_trial (pc := 61) (by first | rfl | assumption) fl_X4_30 dX4_best_61 ?_
                  refine G_X3_cells (pc := 64) (by first | rfl | assumption) fl_X4_118 dX4_best_64 ?_
                  refine V_iload_n (pc := 67) dX4_best_67 rfl ?_
                  refine V_iload (pc := 68) dX4_best_68 rfl ?_
                  refine V_callS_V (pc := 70) ff_X4_lay ml_X4_67 (c_X4_layI (n := 5) rfl (by omega)) dX4_best_70 rfl rfl (by decide) (by decide) (Nat.le_of_ble_eq_true rfl) ?_
                  rw [stX_pc _ _ _ _ (by omega)]
                  refine V_aload_n (pc := 73) dX4_best_73 rfl ?_
                  refine G_X4_trial (pc := 74) (by first | rfl | assumption) fl_X4_30 dX4_best_74 ?_
                  refine V_aload_n (pc := 77) dX4_best_77 rfl ?_
                  refine G_X4_shore (pc := 78) (by first | rfl | assumption) fl_X4_16 dX4_best_78 ?_
                  refine V_iload_n (pc := 81) dX4_best_81 rfl ?_
                  rw [s17]
                  refine V_callV_V (pc := 82) ff_X3_passDays ml_X4_173 (by first | rfl | assumption) rfl rfl (c_X3_passDays2 (k := 48) rfl hx (Z_fup (Z_pX σ 45) (by omega)) (OKP_fup hp (by omega) (by omega) (by omega)) (by rw [fup_o (by omega)]; omega)) dX4_best_82 rfl rfl (by decide) (by decide) (Nat.le_of_ble_eq_true rfl) ?_
                  refine V_aload_n (pc := 85) dX4_best_85 rfl ?_
                  refine G_X4_trial (pc := 86) (by first | rfl | assumption) fl_X4_30 dX4_best_86 ?_
                  refine V_iload_n (pc := 89) dX4_best_89 rfl ?_
                  refine V_callV_I (pc := 90) ff_X3_weight ml_X4_127 (by first | rfl | assumption) rfl rfl (c_X3_weight (k := 48) rfl (by omega)) dX4_best_90 rfl rfl (by decide) (by decide) (Nat.le_of_ble_eq_true rfl) ?_
                  rw [pX_stX _ _ (Z_itr o (Z_fup (Z_pX σ 45) (by omega)) 63 n), show wtF (itr (KX σ (σ 17 2)) 63 (fup (pX σ 45) c i) n) c 5 = bsW (KX σ (σ 17 2)) (pX σ 45) c n i from rfl]
                  have hW : bsW (KX σ (σ 17 2)) (pX σ 45) c n i ≤ 45 := wtF_le (OKP_itr o (OKP_fup hp (by omega) (by omega) (by omega)) 63 n) (by omega) 5 (by omega)
                  refine V_istore (pc := 93) dX4_best_93 (by decide) rfl ?_
                  refine V_iload (pc := 95) dX4_best_95 rfl ?_
                  refine V_iload (pc := 97) dX4_best_97 rfl ?_
                  refine V_icmpM_le (pc := 99) 110 dX4_best_99 (by decide) (by omega) (by omega) (fun h_99 => ?_) (fun h_99 => ?_)
                  · skip
                    refine V_iinc (pc := 110) 1 dX4_best_110 (by decide) rfl (by decide) rfl ?_
                    refine V_goto (pc := 113) 42 dX4_best_113 (by decide) ?_
                    refine ih _ (by omega) (i + 1) _ _ _ _ rfl (by omega) (Or.inr ⟨by omega, ?_, by first | (exfalso; omega) | omega⟩) (OKP_itr o (OKP_fup hp (by omega) (by omega) (by omega)) 63 n) (Z_itr o (Z_fup (Z_pX σ 45) (by omega)) 63 n) rfl
                    first
                    | (exfalso; omega)
                    | (rcases hbm with ⟨h1, h2, h3⟩ | ⟨h1, h2, h3⟩
                       · first
                         | (exfalso; omega)
                         | (subst h1
                            rw [bsF_s, show bsF (bsW (KX σ (σ 17 2)) (pX σ 45) c n) 0 = (4294967287, 4294967287) from rfl, if_pos (Or.inl rfl)])
                       · have hb2 : mo = (bsF (bsW (KX σ (σ 17 2)) (pX σ 45) c n) i).2 := by rw [← h2]
                         rw [bsF_s, ← hb2]
                         first | (rw [if_pos (by omega)]; done) | rw [if_neg (by omega), ← h2])
                  · skip
                    refine V_iload (pc := 102) dX4_best_102 rfl ?_
                    refine V_istore (pc := 104) dX4_best_104 (by decide) rfl ?_
                    refine V_iload (pc := 106) dX4_best_106 rfl ?_
                    refine V_istore (pc := 108) dX4_best_108 (by decide) rfl ?_
                    refine V_iinc (pc := 110) 1 dX4_best_110 (by decide) rfl (by decide) rfl ?_
                    refine V_goto (pc := 113) 42 dX4_best_113 (by decide) ?_
                    refine ih _ (by omega) (i + 1) _ _ _ _ rfl (by omega) (Or.inr ⟨by omega, ?_, by first | (exfalso; omega) | omega⟩) (OKP_itr o (OKP_fup hp (by omega) (by omega) (by omega)) 63 n) (Z_itr o (Z_fup (Z_pX σ 45) (by omega)) 63 n) rfl
                    first
                    | (exfalso; omega)
                    | (rcases hbm with ⟨h1, h2, h3⟩ | ⟨h1, h2, h3⟩
                       · first
                         | (exfalso; omega)
                         | (subst h1
                            rw [bsF_s, show bsF (bsW (KX σ (σ 17 2)) (pX σ 45) c n) 0 = (4294967287, 4294967287) from rfl, if_pos (Or.inl rfl)])
                       · have hb2 : mo = (bsF (bsW (KX σ (σ 17 2)) (pX σ 45) c n) i).2 := by rw [← h2]
                         rw [bsF_s, ← hb2]
                         first | (rw [if_pos (by omega)]; done) | rw [if_neg (by omega), ← h2])
            have e := L_42 _ 0 _ _ none (pX σ 48) rfl (by omega) (Or.inl ⟨rfl, rfl, rfl⟩) h48 (Z_pX σ 48) rfl
            rw [stX_self] at e
            exact e
          · skip
            refine V_bipush (pc := 30) 4294967294 dX4_best_30 (by decide) ?_
            exact hret _ _ _ _ dX4_best_32 (rI_mk (by unfold beG; (repeat' split) <;> first | (exfalso; omega) | rfl) (TQ.rf h48))
  · skip
    refine V_iconst (pc := 8) 4294967295 dX4_best_8 (by decide) ?_
    exact hret _ _ _ _ dX4_best_9 (rI_mk (by unfold beG; (repeat' split) <;> first | (exfalso; omega) | rfl) (TQ.rf h48))
