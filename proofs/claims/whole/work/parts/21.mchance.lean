/-! RESTS, FAILS, GENERATIONS of the model; the rows wb_ are pasted from the kit's BITS.to-paste -/
theorem wb_tb (n : Nat) : (lN n).toBitVec = BitVec.ofNat 64 n := rfl
theorem wb_inj {a b : Int64} (h : a.toBitVec = b.toBitVec) : a = b := Int64.toBitVec_inj.mp h
theorem wb_tn {n : Nat} (h : n < 2 ^ 64) : (lN n).toBitVec.toNat = n := by rw [wb_tb, BitVec.toNat_ofNat, Nat.mod_eq_of_lt h]
theorem wb_of (x : Int64) : ∃ n, n < 2 ^ 64 ∧ x = lN n := ⟨x.toBitVec.toNat, x.toBitVec.isLt, wb_inj (by rw [wb_tb]; simp)⟩
theorem wb_of32 (x : Int32) : ∃ n, n < 2 ^ 32 ∧ x = nI n := ⟨x.toBitVec.toNat, x.toBitVec.isLt, Int32.toBitVec_inj.mp (by show _ = BitVec.ofNat 32 _; simp)⟩
theorem wb_c : ∀ k, k < 64 → ((nI k).toInt64 &&& 63) = lN k := by decide +kernel
theorem wb_cu : ∀ k, k < 64 → ((nI k).toInt64.toUInt64 &&& Int64.toUInt64 63) = UInt64.ofNat k := by decide +kernel
theorem wb_sm : ∀ k, k < 64 → (BitVec.ofNat 64 k).smod 64 = BitVec.ofNat 64 k := by decide +kernel
theorem wb_pw {a b : Nat} (h : a ≤ b) : 2 ^ b = 2 ^ a * 2 ^ (b - a) := by rw [← Nat.pow_add]; congr 1; omega
theorem wb_lt2 {a b : Nat} (h : a < b) : 2 ^ a < 2 ^ b := Nat.pow_lt_pow_right (by decide) h
theorem wb_mod (n : Nat) : lN n = lN (n % 2 ^ 64) := wb_inj (by rw [wb_tb, wb_tb]; apply BitVec.eq_of_toNat_eq; rw [BitVec.toNat_ofNat, BitVec.toNat_ofNat, Nat.mod_mod])
theorem wb_shr {n k : Nat} (hn : n < 2 ^ 64) (hk : k < 64) : ((lN n).toUInt64 >>> ((nI k).toInt64.toUInt64 &&& Int64.toUInt64 63)).toInt64 = lN (n / 2 ^ k) := by
  rw [wb_cu k hk]
  apply wb_inj
  apply BitVec.eq_of_toNat_eq
  show ((lN n).toUInt64 >>> UInt64.ofNat k).toNat = (BitVec.ofNat 64 _).toNat
  have h1 : (UInt64.ofNat k).toNat = k := by
    show (BitVec.ofNat 64 k).toNat = k
    rw [BitVec.toNat_ofNat, Nat.mod_eq_of_lt (by omega)]
  have h2 : (lN n).toUInt64.toNat = n := wb_tn hn
  rw [UInt64.toNat_shiftRight, h1, h2, Nat.mod_eq_of_lt hk, Nat.shiftRight_eq_div_pow, BitVec.toNat_ofNat, Nat.mod_eq_of_lt (Nat.lt_of_le_of_lt (Nat.div_le_self _ _) hn)]
def gn2 (K : St) (P : Nat → Nat) (one other a b : Nat) : Nat → Nat := fup (fup P one (K 2 a)) other (K 2 b)
def gnP (K : St) (P : Nat → Nat) (one other a b : Nat) : Nat → Nat := fup (gn2 K P one other a b) 5 (gn2 K P one other a b 5 ||| (1 * 2 ^ one ||| 1 * 2 ^ other))
def gnW (K : St) (P : Nat → Nat) (one other a b who : Nat) : Nat := wtF (itr K 63 (gnP K P one other a b) 5) who 5
theorem or5_lt {x a b : Nat} (hx : x < 32) (ha : a < 5) (hb : b < 5) : x ||| (1 * 2 ^ a ||| 1 * 2 ^ b) < 32 := by
  have h1 : 1 * 2 ^ a < 2 ^ 5 := by rw [Nat.one_mul]; exact Nat.pow_lt_pow_right (by decide) ha
  have h2 : 1 * 2 ^ b < 2 ^ 5 := by rw [Nat.one_mul]; exact Nat.pow_lt_pow_right (by decide) hb
  exact Nat.or_lt_two_pow (n := 5) hx (Nat.or_lt_two_pow h1 h2)
theorem OKP_gn2 {K : St} {P : Nat → Nat} (hp : OKP P) {one other a b : Nat} (h1 : one < 5) (h2 : other < 5) (ha : K 2 a < 12) (hb : K 2 b < 12) : OKP (gn2 K P one other a b) := OKP_fup (OKP_fup hp (fun _ => ha) (by omega) (by omega)) (fun _ => hb) (by omega) (by omega)
theorem OKP_gnP {K : St} {P : Nat → Nat} (hp : OKP P) {one other a b : Nat} (h1 : one < 5) (h2 : other < 5) (ha : K 2 a < 12) (hb : K 2 b < 12) : OKP (gnP K P one other a b) := by
  have h := OKP_gn2 (K := K) hp h1 h2 ha hb
  exact OKP_fup h (by omega) (fun _ => or5_lt h.2.1 h1 h2) (by omega)
theorem gnP_31 {K : St} {P : Nat → Nat} {one other a b : Nat} (h1 : one < 5) (h2 : other < 5) : gnP K P one other a b 31 = P 31 := by
  unfold gnP gn2
  rw [fup_o (by omega), fup_o (by omega), fup_o (by omega)]
theorem PEq_gnP {K : St} {nC : Nat} {P P' : Nat → Nat} (h : PEq nC P P') (one other a b : Nat) : PEq nC (gnP K P one other a b) (gnP K P' one other a b) := by
  have h2 : PEq nC (gn2 K P one other a b) (gn2 K P' one other a b) := (h.up rfl).up rfl
  unfold gnP
  exact h2.up (by rw [h2.2 5 (by omega) (by omega)])
theorem gnW_le {K : St} (o : OKK K) {P : Nat → Nat} (hp : OKP P) {one other a b who : Nat} (h1 : one < 5) (h2 : other < 5) (ha : a < K 0 1) (hb : b < K 0 1) (hw : who < 5) : gnW K P one other a b who ≤ 45 := wtF_le (OKP_itr o (OKP_gnP hp h1 h2 (o.2.2.2.2.1 a ha).1 (o.2.2.2.2.1 b hb).1) 63 5) hw 5 (by omega)
set_option maxHeartbeats 4000000 in
set_option maxRecDepth 100000 in
theorem c_X5_gain {B : Bk} {σ : St} {one other a b who : Nat} {T : Nat → Nat} (h1 : one < σ 0 2) (h2 : other < σ 0 2) (ha : a < σ 0 1) (hb : b < σ 0 1) (hw : who < σ 0 2) (g : GM σ) : MC yX5_gain cX5_gain 6 (some .int) 5 B [.ref (B.1 0), .int (nI one), .int (nI other), .int (nI a), .int (nI b), .int (nI who)] (stM σ 1 T) (rI (gnW σ (pM σ 0) one other a b who) (TR σ)) := by
  obtain ⟨o, ht, hp, hd⟩ := g
  obtain ⟨o0, o1, o2, o3, o4, o5⟩ := id o
  have ht64 : σ 0 20 < 64 := by omega
  have e1 : PEq (σ 0 2) (cp32 (pM σ 0) T) (pM σ 0) := cp_PEq _ o2 _ _
  have e2 : OKP (cp32 (pM σ 0) T) := cp_OKP hp _
  have e3 : cp32 (pM σ 0) T 31 = pM σ 0 31 := cp_lt (by decide)
  have a4 := o4 a ha
  have b4 := o4 b hb
  refine MC_int RX5 [some (.ref (B.1 0)), some (.int (nI one)), some (.int (nI other)), some (.int (nI a)), some (.int (nI b)), some (.int (nI who))] 0 (by decide +kernel) rfl rfl (Nat.le_of_ble_eq_true rfl) (fun E Q hret => ?_)
  refine V_aload_n (pc := 0) dX5_gain_0 rfl ?_
  refine V_callV_V (pc := 1) ff_X5_layTrial ml_X5_180 (by first | rfl | assumption) rfl rfl (c_X5_layTrial2) dX5_gain_1 rfl rfl (by decide) (by decide) (Nat.le_of_ble_eq_true rfl) ?_
  refine V_aload_n (pc := 4) dX5_gain_4 rfl ?_
  refine G_X5_now (pc := 5) (by first | rfl | assumption) fl_X5_25 dX5_gain_5 ?_
  refine V_bipush (pc := 8) 32 dX5_gain_8 (by decide) ?_
  refine V_iload_n (pc := 10) dX5_gain_10 rfl ?_
  refine V_iadd (pc := 11) dX5_gain_11 ?_
  refine V_aload_n (pc := 12) dX5_gain_12 rfl ?_
  refine G_X5_groundCell (pc := 13) (by first | rfl | assumption) fl_X5_13 dX5_gain_13 ?_
  refine V_iload_n (pc := 16) dX5_gain_16 rfl ?_
  refine V_iald (pc := 17) (by first | rfl | assumption) (by first | omega | assumption | exact and1_lt _ | exact nb_p) dX5_gain_17 ?_
  rw [stM_o (by decide)]
  refine V_iast (pc := 18) (by first | rfl | assumption) (by first | omega | assumption | exact and1_lt _ | exact nb_p) dX5_gain_18 ?_
  rw [stM_put1]
  refine V_aload_n (pc := 19) dX5_gain_19 rfl ?_
  refine G_X5_now (pc := 20) (by first | rfl | assumption) fl_X5_25 dX5_gain_20 ?_
  refine V_bipush (pc := 23) 32 dX5_gain_23 (by decide) ?_
  refine V_iload_n (pc := 25) dX5_gain_25 rfl ?_
  refine V_iadd (pc := 26) dX5_gain_26 ?_
  refine V_aload_n (pc := 27) dX5_gain_27 rfl ?_
  refine G_X5_groundCell (pc := 28) (by first | rfl | assumption) fl_X5_13 dX5_gain_28 ?_
  refine V_iload (pc := 31) dX5_gain_31 rfl ?_
  refine V_iald (pc := 33) (by first | rfl | assumption) (by first | omega | assumption | exact and1_lt _ | exact nb_p) dX5_gain_33 ?_
  rw [stM_o (by decide)]
  refine V_iast (pc := 34) (by first | rfl | assumption) (by first | omega | assumption | exact and1_lt _ | exact nb_p) dX5_gain_34 ?_
  rw [stM_put1]
  refine V_aload_n (pc := 35) dX5_gain_35 rfl ?_
  refine G_X5_now (pc := 36) (by first | rfl | assumption) fl_X5_25 dX5_gain_36 ?_
  refine V_bipush (pc := 39) 37 dX5_gain_39 (by decide) ?_
  refine V_dup2 (pc := 41) dX5_gain_41 rfl rfl ?_
  refine V_iald (pc := 42) (by first | rfl | assumption) (by first | omega | assumption | exact and1_lt _ | exact nb_p) dX5_gain_42 ?_
  rw [stM_g37]
  refine V_iconst (pc := 43) 1 dX5_gain_43 (by decide) ?_
  refine V_iload_n (pc := 44) dX5_gain_44 rfl ?_
  refine V_ishl (pc := 45) dX5_gain_45 (by first | omega | assumption | exact and1_lt _ | exact nb_p) ?_
  refine V_iconst (pc := 46) 1 dX5_gain_46 (by decide) ?_
  refine V_iload_n (pc := 47) dX5_gain_47 rfl ?_
  refine V_ishl (pc := 48) dX5_gain_48 (by first | omega | assumption | exact and1_lt _ | exact nb_p) ?_
  refine V_ior (pc := 49) dX5_gain_49 ?_
  refine V_ior (pc := 50) dX5_gain_50 ?_
  refine V_iast (pc := 51) (by first | rfl | assumption) (by first | omega | assumption | exact and1_lt _ | exact nb_p) dX5_gain_51 ?_
  rw [stM_p37]
  refine V_aload_n (pc := 52) dX5_gain_52 rfl ?_
  refine V_iconst (pc := 53) 5 dX5_gain_53 (by decide) ?_
  refine V_callV_V (pc := 54) ff_X5_goOn ml_X5_183 (by first | rfl | assumption) rfl rfl (c_X5_goOn2 o ht64 (OKP_gnP e2 (by omega) (by omega) a4.1 b4.1) (by rw [show fup (fup (fup (cp32 (pM σ 0) T) one (σ 2 a)) other (σ 2 b)) 5 ((fup (fup (cp32 (pM σ 0) T) one (σ 2 a)) other (σ 2 b)) 5 ||| (1 * 2 ^ one ||| 1 * 2 ^ other)) 31 = cp32 (pM σ 0) T 31 from gnP_31 (by omega) (by omega), e3]; omega)) dX5_gain_54 rfl rfl (by decide) (by decide) (Nat.le_of_ble_eq_true rfl) ?_
  refine V_aload_n (pc := 57) dX5_gain_57 rfl ?_
  refine V_iconst (pc := 58) 1 dX5_gain_58 (by decide) ?_
  refine V_iload (pc := 59) dX5_gain_59 rfl ?_
  refine V_callV_I (pc := 61) ff_X5_weightOn ml_X5_143 (by first | rfl | assumption) rfl rfl (c_X5_weightOn (by decide) (by omega)) dX5_gain_61 rfl rfl (by decide) (by decide) (Nat.le_of_ble_eq_true rfl) ?_
  rw [pM_stM, ht]
  exact hret _ _ _ _ dX5_gain_64 (rI_mk (wtF_cong (PEq_itr o (PEq_gnP e1 one other a b) 63 5) (by omega) 5 (by omega)) ⟨_, rfl⟩)
abbrev rsB (K : St) (P : Nat → Nat) (one other a b n : Nat) : Prop := ∀ g, g < n → ¬ gnW K P one other a b one < gnW K P one other g b one ∧ ¬ gnW K P one other a b other < gnW K P one other a g other
set_option maxHeartbeats 4000000 in
set_option maxRecDepth 100000 in
theorem c_X5_isRest {B : Bk} {σ : St} {one other a b : Nat} {T : Nat → Nat} (h1 : one < σ 0 2) (h2 : other < σ 0 2) (ha : a < σ 0 1) (hb : b < σ 0 1) (g : GM σ) : MC yX5_isRest cX5_isRest 8 (some .boolean) 6 B [.ref (B.1 0), .int (nI one), .int (nI other), .int (nI a), .int (nI b)] (stM σ 1 T) (rI (if rsB σ (pM σ 0) one other a b (σ 0 1) then 1 else 0) (TR σ)) := by
  obtain ⟨o, ht, hp, hd⟩ := id g
  obtain ⟨o0, o1, o2, o3, o4, o5⟩ := id o
  have ht64 : σ 0 20 < 64 := by omega
  have w1 := gnW_le o hp (one := one) (other := other) (who := one) (by omega) (by omega) ha hb (by omega)
  have w2 := gnW_le o hp (one := one) (other := other) (who := other) (by omega) (by omega) ha hb (by omega)
  refine MC_bool RX5 [some (.ref (B.1 0)), some (.int (nI one)), some (.int (nI other)), some (.int (nI a)), some (.int (nI b)), none, none, none] 3 (by decide +kernel) rfl rfl (Nat.le_of_ble_eq_true rfl) (fun E Q hret => ?_)
  refine V_aload_n (pc := 0) dX5_isRest_0 rfl ?_
  refine V_iload_n (pc := 1) dX5_isRest_1 rfl ?_
  refine V_iload_n (pc := 2) dX5_isRest_2 rfl ?_
  refine V_iload_n (pc := 3) dX5_isRest_3 rfl ?_
  refine V_iload (pc := 4) dX5_isRest_4 rfl ?_
  refine V_iload_n (pc := 6) dX5_isRest_6 rfl ?_
  refine V_callV_rI (pc := 7) ff_X5_gain ml_X5_225 (by first | rfl | assumption) rfl rfl (c_X5_gain (T := T) h1 h2 ha hb h1 g) dX5_isRest_7 rfl rfl (by decide) (by decide) (Nat.le_of_ble_eq_true rfl) (fun u1 hu1 => ?_)
  obtain ⟨T1, rfl⟩ := hu1
  refine V_istore (pc := 10) dX5_isRest_10 (by decide) rfl ?_
  refine V_aload_n (pc := 12) dX5_isRest_12 rfl ?_
  refine V_iload_n (pc := 13) dX5_isRest_13 rfl ?_
  refine V_iload_n (pc := 14) dX5_isRest_14 rfl ?_
  refine V_iload_n (pc := 15) dX5_isRest_15 rfl ?_
  refine V_iload (pc := 16) dX5_isRest_16 rfl ?_
  refine V_iload_n (pc := 18) dX5_isRest_18 rfl ?_
  refine V_callV_rI (pc := 19) ff_X5_gain ml_X5_225 (by first | rfl | assumption) rfl rfl (c_X5_gain (T := T1) h1 h2 ha hb h2 g) dX5_isRest_19 rfl rfl (by decide) (by decide) (Nat.le_of_ble_eq_true rfl) (fun u2 hu2 => ?_)
  obtain ⟨T2, rfl⟩ := hu2
  refine V_istore (pc := 22) dX5_isRest_22 (by decide) rfl ?_
  refine V_iconst (pc := 24) 0 dX5_isRest_24 (by decide) ?_
  refine V_istore (pc := 25) dX5_isRest_25 (by decide) rfl ?_
  have L_27 : ∀ (m : Nat) (i : Nat) (T : Nat → Nat), σ 0 1 - i = m → i ≤ σ 0 1 → rsB σ (pM σ 0) one other a b i → V E B RX5 cX5_isRest 8 6 Q 27 [some (.ref (B.1 0)), some (.int (nI one)), some (.int (nI other)), some (.int (nI a)), some (.int (nI b)), some (.int (nI (gnW σ (pM σ 0) one other a b one))), some (.int (nI (gnW σ (pM σ 0) one other a b other))), some (.int (nI i))] [] (stM σ 1 T) := by
    intro m
    induction m using Nat.strongRecOn with
    | _ m ih =>
      intro i T hm hi hr
      have hc1 : stM σ 1 T 0 1 = σ 0 1 := by rw [stM_o (by decide)]
      refine V_iload (pc := 27) dX5_isRest_27 rfl ?_
      refine V_aload_n (pc := 29) dX5_isRest_29 rfl ?_
      refine G_X5_grounds (pc := 30) (by first | rfl | assumption) fl_X5_111 dX5_isRest_30 ?_
      rw [hc1]
      refine V_icmp_ge (pc := 33) 75 dX5_isRest_33 (by decide) (by first | omega | assumption | exact and1_lt _ | exact nb_p) (by first | omega | assumption | exact and1_lt _ | exact nb_p) (fun h_33 => ?_) (fun h_33 => ?_)
      · skip
        refine V_iconst (pc := 75) 1 dX5_isRest_75 (by decide) ?_
        exact hret _ _ _ _ dX5_isRest_76 (by first | decide | omega | (split <;> omega)) (rI_mk (by rw [if_pos (fun k hk => hr k (by omega))]) ⟨_, rfl⟩)
      · skip
        refine V_aload_n (pc := 36) dX5_isRest_36 rfl ?_
        refine V_iload_n (pc := 37) dX5_isRest_37 rfl ?_
        refine V_iload_n (pc := 38) dX5_isRest_38 rfl ?_
        refine V_iload (pc := 39) dX5_isRest_39 rfl ?_
        refine V_iload (pc := 41) dX5_isRest_41 rfl ?_
        refine V_iload_n (pc := 43) dX5_isRest_43 rfl ?_
        refine V_callV_rI (pc := 44) ff_X5_gain ml_X5_225 (by first | rfl | assumption) rfl rfl (c_X5_gain (T := T) h1 h2 (by omega) hb h1 g) dX5_isRest_44 rfl rfl (by decide) (by decide) (Nat.le_of_ble_eq_true rfl) (fun u3 hu3 => ?_)
        obtain ⟨T3, rfl⟩ := hu3
        have w3 := gnW_le o hp (one := one) (other := other) (a := i) (who := one) (by omega) (by omega) (show i < σ 0 1 by omega) hb (by omega)
        refine V_iload (pc := 47) dX5_isRest_47 rfl ?_
        refine V_icmp_gt (pc := 49) 67 dX5_isRest_49 (by decide) (by first | omega | assumption | exact and1_lt _ | exact nb_p) (by first | omega | assumption | exact and1_lt _ | exact nb_p) (fun h_49 => ?_) (fun h_49 => ?_)
        · skip
          refine V_iconst (pc := 67) 0 dX5_isRest_67 (by decide) ?_
          exact hret _ _ _ _ dX5_isRest_68 (by first | decide | omega | (split <;> omega)) (rI_mk (by rw [if_neg (fun q => by have := q i (by omega); omega)]) ⟨_, rfl⟩)
        · skip
          refine V_aload_n (pc := 52) dX5_isRest_52 rfl ?_
          refine V_iload_n (pc := 53) dX5_isRest_53 rfl ?_
          refine V_iload_n (pc := 54) dX5_isRest_54 rfl ?_
          refine V_iload_n (pc := 55) dX5_isRest_55 rfl ?_
          refine V_iload (pc := 56) dX5_isRest_56 rfl ?_
          refine V_iload_n (pc := 58) dX5_isRest_58 rfl ?_
          refine V_callV_rI (pc := 59) ff_X5_gain ml_X5_225 (by first | rfl | assumption) rfl rfl (c_X5_gain (T := T3) h1 h2 ha (by omega) h2 g) dX5_isRest_59 rfl rfl (by decide) (by decide) (Nat.le_of_ble_eq_true rfl) (fun u4 hu4 => ?_)
          obtain ⟨T4, rfl⟩ := hu4
          have w4 := gnW_le o hp (one := one) (other := other) (b := i) (who := other) (by omega) (by omega) ha (show i < σ 0 1 by omega) (by omega)
          refine V_iload (pc := 62) dX5_isRest_62 rfl ?_
          refine V_icmp_le (pc := 64) 69 dX5_isRest_64 (by decide) (by first | omega | assumption | exact and1_lt _ | exact nb_p) (by first | omega | assumption | exact and1_lt _ | exact nb_p) (fun h_64 => ?_) (fun h_64 => ?_)
          · skip
            refine V_iinc (pc := 69) 1 dX5_isRest_69 (by decide) rfl (by decide) rfl ?_
            refine V_goto (pc := 72) 27 dX5_isRest_72 (by decide) ?_
            exact ih _ (by omega) (i + 1) _ rfl (by omega) (fun k hk => by
              rcases (show k < i ∨ k = i by omega) with h | rfl
              · exact hr k h
              · exact ⟨h_49, h_64⟩)
          · skip
            refine V_iconst (pc := 67) 0 dX5_isRest_67 (by decide) ?_
            exact hret _ _ _ _ dX5_isRest_68 (by first | decide | omega | (split <;> omega)) (rI_mk (by rw [if_neg (fun q => by have := q i (by omega); omega)]) ⟨_, rfl⟩)
  exact L_27 _ 0 _ rfl (by omega) (fun k hk => absurd hk (by omega))
def rtF (K : St) (P : Nat → Nat) (one other : Nat) : Nat → Nat × Nat
  | 0 => (0, 4294967287)
  | k + 1 => if rsB K P one other (k / K 0 1) (k % K 0 1) (K 0 1) then ((rtF K P one other k).1 + 1, if (rtF K P one other k).1 = 0 then 10 * (k / K 0 1) + k % K 0 1 else (rtF K P one other k).2) else rtF K P one other k
theorem rtF_s (K : St) (P : Nat → Nat) (one other k : Nat) : rtF K P one other (k + 1) = if rsB K P one other (k / K 0 1) (k % K 0 1) (K 0 1) then ((rtF K P one other k).1 + 1, if (rtF K P one other k).1 = 0 then 10 * (k / K 0 1) + k % K 0 1 else (rtF K P one other k).2) else rtF K P one other k := rfl
theorem rtF_le (K : St) (P : Nat → Nat) (one other : Nat) : ∀ k, (rtF K P one other k).1 ≤ k
  | 0 => Nat.le_refl _
  | k + 1 => by
    have := rtF_le K P one other k
    rw [rtF_s]
    split
    · exact Nat.succ_le_succ this
    · omega
def reM (σ : St) (one other w : Nat) : Nat := if one < σ 0 2 ∧ other < σ 0 2 then (if one ≠ other ∧ w ≤ 1 then (if w = 0 then (rtF σ (pM σ 0) one other (σ 0 1 * σ 0 1)).1 else (rtF σ (pM σ 0) one other (σ 0 1 * σ 0 1)).2) else 4294967294) else 4294967295
set_option maxHeartbeats 4000000 in
set_option maxRecDepth 100000 in
theorem c_X5_rests {B : Bk} {σ : St} {one other w : Nat} (h1 : one < 2 ^ 32) (h2 : other < 2 ^ 32) (hw : w < 2 ^ 32) (g : GM σ) : MC yX5_rests cX5_rests 7 (some .int) 7 B [.ref (B.1 0), .int (nI one), .int (nI other), .int (nI w)] σ (rI (reM σ one other w) (TR σ)) := by
  obtain ⟨o, ht, hp, hd⟩ := id g
  obtain ⟨o0, o1, o2, o3, o4, o5⟩ := id o
  have ht64 : σ 0 20 < 64 := by omega
  have h36 : σ 0 1 * σ 0 1 ≤ 6 * 6 := Nat.mul_le_mul o1 o1
  refine MC_int RX5 [some (.ref (B.1 0)), some (.int (nI one)), some (.int (nI other)), some (.int (nI w)), none, none, none] 3 (by decide +kernel) rfl rfl (Nat.le_of_ble_eq_true rfl) (fun E Q hret => ?_)
  refine V_aload_n (pc := 0) dX5_rests_0 rfl ?_
  refine V_iload_n (pc := 1) dX5_rests_1 rfl ?_
  refine V_callV_I (pc := 2) ff_X5_isChild ml_X5_153 (by first | rfl | assumption) rfl rfl (c_X5_isChild (by first | omega | assumption | exact and1_lt _ | exact nb_p) (by first | omega | assumption | exact and1_lt _ | exact nb_p)) dX5_rests_2 rfl rfl (by decide) (by decide) (Nat.le_of_ble_eq_true rfl) ?_
  refine V_ifb_eq (pc := 5) 16 dX5_rests_5 (by decide) (fun h_5 => ?_) (fun h_5 => ?_)
  · skip
    refine V_iconst (pc := 16) 4294967295 dX5_rests_16 (by decide) ?_
    exact hret _ _ _ _ dX5_rests_17 (rI_mk (by unfold reM; (repeat' split) <;> first | (exfalso; omega) | rfl) (TR.rf σ))
  · skip
    refine V_aload_n (pc := 8) dX5_rests_8 rfl ?_
    refine V_iload_n (pc := 9) dX5_rests_9 rfl ?_
    refine V_callV_I (pc := 10) ff_X5_isChild ml_X5_153 (by first | rfl | assumption) rfl rfl (c_X5_isChild (by first | omega | assumption | exact and1_lt _ | exact nb_p) (by first | omega | assumption | exact and1_lt _ | exact nb_p)) dX5_rests_10 rfl rfl (by decide) (by decide) (Nat.le_of_ble_eq_true rfl) ?_
    refine V_ifb_ne (pc := 13) 18 dX5_rests_13 (by decide) (fun h_13 => ?_) (fun h_13 => ?_)
    · skip
      refine V_iload_n (pc := 18) dX5_rests_18 rfl ?_
      refine V_iload_n (pc := 19) dX5_rests_19 rfl ?_
      refine V_icmp_eq (pc := 20) 33 dX5_rests_20 (by decide) (by omega) (by omega) (fun h_20 => ?_) (fun h_20 => ?_)
      · skip
        refine V_bipush (pc := 33) 4294967294 dX5_rests_33 (by decide) ?_
        exact hret _ _ _ _ dX5_rests_35 (rI_mk (by unfold reM; (repeat' split) <;> first | (exfalso; omega) | rfl) (TR.rf σ))
      · skip
        refine V_iload_n (pc := 23) dX5_rests_23 rfl ?_
        refine V_i2l (pc := 24) dX5_rests_24 rfl ?_
        refine V_lconst (pc := 25) (v := lN 0) dX5_rests_25 rfl ?_
        refine V_lconst (pc := 26) (v := lN 1) dX5_rests_26 rfl ?_
        refine V_callS_I (pc := 27) ff_X5_in ml_X5_65 (c_X5_inI (by first | omega | assumption | exact and1_lt _ | exact nb_p) (by decide) (by decide)) dX5_rests_27 rfl rfl (by decide) (by decide) (Nat.le_of_ble_eq_true rfl) ?_
        refine V_ifb_ne (pc := 30) 36 dX5_rests_30 (by decide) (fun h_30 => ?_) (fun h_30 => ?_)
        · skip
          refine V_iconst (pc := 36) 0 dX5_rests_36 (by decide) ?_
          refine V_istore (pc := 37) dX5_rests_37 (by decide) rfl ?_
          refine V_bipush (pc := 39) 4294967287 dX5_rests_39 (by decide) ?_
          refine V_istore (pc := 41) dX5_rests_41 (by decide) rfl ?_
          refine V_iconst (pc := 43) 0 dX5_rests_43 (by decide) ?_
          refine V_istore (pc := 44) dX5_rests_44 (by decide) rfl ?_
          have L_46 : ∀ (m : Nat) (i : Nat) (T : Nat → Nat), σ 0 1 * σ 0 1 - i = m → i ≤ σ 0 1 * σ 0 1 → V E B RX5 cX5_rests 7 7 Q 46 [some (.ref (B.1 0)), some (.int (nI one)), some (.int (nI other)), some (.int (nI w)), some (.int (nI (rtF σ (pM σ 0) one other i).1)), some (.int (nI (rtF σ (pM σ 0) one other i).2)), some (.int (nI i))] [] (stM σ 1 T) := by
            intro m
            induction m using Nat.strongRecOn with
            | _ m ih =>
              intro i T hm hi
              have hc1 : stM σ 1 T 0 1 = σ 0 1 := by rw [stM_o (by decide)]
              have hrl := rtF_le σ (pM σ 0) one other i
              refine V_iload (pc := 46) dX5_rests_46 rfl ?_
              refine V_aload_n (pc := 48) dX5_rests_48 rfl ?_
              refine G_X5_grounds (pc := 49) (by first | rfl | assumption) fl_X5_111 dX5_rests_49 ?_
              refine V_aload_n (pc := 52) dX5_rests_52 rfl ?_
              refine G_X5_grounds (pc := 53) (by first | rfl | assumption) fl_X5_111 dX5_rests_53 ?_
              rw [hc1]
              refine V_imul (pc := 56) dX5_rests_56 ?_
              refine V_icmp_ge (pc := 57) 122 dX5_rests_57 (by decide) (by first | omega | assumption | exact and1_lt _ | exact nb_p) (by first | omega | assumption | exact and1_lt _ | exact nb_p) (fun h_57 => ?_) (fun h_57 => ?_)
              · skip
                refine V_iload_n (pc := 122) dX5_rests_122 rfl ?_
                refine V_if_ne (pc := 123) 131 dX5_rests_123 (by decide) (by first | omega | assumption | exact and1_lt _ | exact nb_p) (fun h_123 => ?_) (fun h_123 => ?_)
                · skip
                  refine V_iload (pc := 131) dX5_rests_131 rfl ?_
                  exact hret _ _ _ _ dX5_rests_133 (rI_mk (by unfold reM; rw [if_pos ⟨h_5, h_13⟩, if_pos (by omega), show i = σ 0 1 * σ 0 1 by omega]; first | rw [if_pos (by omega)] | rw [if_neg (by omega)]) ⟨_, rfl⟩)
                · skip
                  refine V_iload (pc := 126) dX5_rests_126 rfl ?_
                  refine V_goto (pc := 128) 133 dX5_rests_128 (by decide) ?_
                  exact hret _ _ _ _ dX5_rests_133 (rI_mk (by unfold reM; rw [if_pos ⟨h_5, h_13⟩, if_pos (by omega), show i = σ 0 1 * σ 0 1 by omega]; first | rw [if_pos (by omega)] | rw [if_neg (by omega)]) ⟨_, rfl⟩)
              · skip
                have hg0 : 0 < σ 0 1 := by
                  rcases Nat.eq_zero_or_pos (σ 0 1) with h | h
                  · rw [h] at h_57; omega
                  · exact h
                have hdv : i / σ 0 1 < σ 0 1 := Nat.div_lt_of_lt_mul h_57
                have hmd : i % σ 0 1 < σ 0 1 := Nat.mod_lt _ hg0
                refine V_aload_n (pc := 60) dX5_rests_60 rfl ?_
                refine V_iload_n (pc := 61) dX5_rests_61 rfl ?_
                refine V_iload_n (pc := 62) dX5_rests_62 rfl ?_
                refine V_iload (pc := 63) dX5_rests_63 rfl ?_
                refine V_aload_n (pc := 65) dX5_rests_65 rfl ?_
                refine G_X5_grounds (pc := 66) (by first | rfl | assumption) fl_X5_111 dX5_rests_66 ?_
                rw [hc1]
                refine V_idiv (pc := 69) dX5_rests_69 (by omega) (by omega) (by omega) ?_
                refine V_iload (pc := 70) dX5_rests_70 rfl ?_
                refine V_aload_n (pc := 72) dX5_rests_72 rfl ?_
                refine G_X5_grounds (pc := 73) (by first | rfl | assumption) fl_X5_111 dX5_rests_73 ?_
                rw [hc1]
                refine V_irem (pc := 76) dX5_rests_76 (by omega) (by omega) (by omega) ?_
                refine V_callV_rI (pc := 77) ff_X5_isRest ml_X5_229 (by first | rfl | assumption) rfl rfl (c_X5_isRest (T := T) h_5 h_13 hdv hmd g) dX5_rests_77 rfl rfl (by decide) (by decide) (Nat.le_of_ble_eq_true rfl) (fun u1 hu1 => ?_)
                obtain ⟨T1, rfl⟩ := hu1
                have hc1 : stM σ 1 T1 0 1 = σ 0 1 := by rw [stM_o (by decide)]
                refine V_ifb_eq (pc := 80) 116 dX5_rests_80 (by decide) (fun h_80 => ?_) (fun h_80 => ?_)
                · skip
                  refine V_iinc (pc := 116) 1 dX5_rests_116 (by decide) rfl (by decide) rfl ?_
                  refine V_goto (pc := 119) 46 dX5_rests_119 (by decide) ?_
                  have e := fun T2 => ih _ (by omega) (i + 1) T2 rfl (by omega)
                  rw [rtF_s] at e
                  first | (rw [if_neg h_80] at e; exact e _) | (rw [if_pos h_80] at e; first | (rw [if_pos h_85] at e; exact e _) | (rw [if_neg h_85] at e; exact e _))
                · skip
                  refine V_iload (pc := 83) dX5_rests_83 rfl ?_
                  refine V_if_ne (pc := 85) 109 dX5_rests_85 (by decide) (by omega) (fun h_85 => ?_) (fun h_85 => ?_)
                  · skip
                    refine V_iload (pc := 109) dX5_rests_109 rfl ?_
                    refine V_istore (pc := 111) dX5_rests_111 (by decide) rfl ?_
                    refine V_iinc (pc := 113) 1 dX5_rests_113 (by decide) rfl (by decide) rfl ?_
                    refine V_iinc (pc := 116) 1 dX5_rests_116 (by decide) rfl (by decide) rfl ?_
                    refine V_goto (pc := 119) 46 dX5_rests_119 (by decide) ?_
                    have e := fun T2 => ih _ (by omega) (i + 1) T2 rfl (by omega)
                    rw [rtF_s] at e
                    first | (rw [if_neg h_80] at e; exact e _) | (rw [if_pos h_80] at e; first | (rw [if_pos h_85] at e; exact e _) | (rw [if_neg h_85] at e; exact e _))
                  · skip
                    refine V_bipush (pc := 88) 10 dX5_rests_88 (by decide) ?_
                    refine V_iload (pc := 90) dX5_rests_90 rfl ?_
                    refine V_aload_n (pc := 92) dX5_rests_92 rfl ?_
                    refine G_X5_grounds (pc := 93) (by first | rfl | assumption) fl_X5_111 dX5_rests_93 ?_
                    rw [hc1]
                    refine V_idiv (pc := 96) dX5_rests_96 (by omega) (by omega) (by omega) ?_
                    refine V_imul (pc := 97) dX5_rests_97 ?_
                    refine V_iload (pc := 98) dX5_rests_98 rfl ?_
                    refine V_aload_n (pc := 100) dX5_rests_100 rfl ?_
                    refine G_X5_grounds (pc := 101) (by first | rfl | assumption) fl_X5_111 dX5_rests_101 ?_
                    rw [hc1]
                    refine V_irem (pc := 104) dX5_rests_104 (by omega) (by omega) (by omega) ?_
                    refine V_iadd (pc := 105) dX5_rests_105 ?_
                    refine V_goto (pc := 106) 111 dX5_rests_106 (by decide) ?_
                    refine V_istore (pc := 111) dX5_rests_111 (by decide) rfl ?_
                    refine V_iinc (pc := 113) 1 dX5_rests_113 (by decide) rfl (by decide) rfl ?_
                    refine V_iinc (pc := 116) 1 dX5_rests_116 (by decide) rfl (by decide) rfl ?_
                    refine V_goto (pc := 119) 46 dX5_rests_119 (by decide) ?_
                    have e := fun T2 => ih _ (by omega) (i + 1) T2 rfl (by omega)
                    rw [rtF_s] at e
                    first | (rw [if_neg h_80] at e; exact e _) | (rw [if_pos h_80] at e; first | (rw [if_pos h_85] at e; exact e _) | (rw [if_neg h_85] at e; exact e _))
          have e := L_46 _ 0 (pM σ 1) rfl (by omega)
          rw [stM_self] at e
          exact e
        · skip
          refine V_bipush (pc := 33) 4294967294 dX5_rests_33 (by decide) ?_
          exact hret _ _ _ _ dX5_rests_35 (rI_mk (by unfold reM; (repeat' split) <;> first | (exfalso; omega) | rfl) (TR.rf σ))
    · skip
      refine V_iconst (pc := 16) 4294967295 dX5_rests_16 (by decide) ?_
      exact hret _ _ _ _ dX5_rests_17 (rI_mk (by unfold reM; (repeat' split) <;> first | (exfalso; omega) | rfl) (TR.rf σ))
def flT (K : St) (se : Nat) (P : Nat → Nat) : Nat → Nat → Nat
  | 0 => P
  | k + 1 => psn K (if se.testBit k = true then 4 else wyO K (flT K se P k 31)) 63 (flT K se P k)
theorem flT_s (K : St) (se : Nat) (P : Nat → Nat) (k : Nat) : flT K se P (k + 1) = psn K (if se.testBit k = true then 4 else wyO K (flT K se P k 31)) 63 (flT K se P k) := rfl
theorem OKP_flT {K : St} (o : OKK K) {P : Nat → Nat} (h : OKP P) (se : Nat) : ∀ n, OKP (flT K se P n)
  | 0 => h
  | n + 1 => OKP_psn o (OKP_flT o h se n) _ _
theorem flT_31 {K : St} (o : OKK K) (P : Nat → Nat) (se : Nat) : ∀ n, flT K se P n 31 = P 31 + n
  | 0 => rfl
  | n + 1 => by rw [flT_s, psn_31 o, flT_31 o P se n]; omega
theorem PEq_flT {K : St} (o : OKK K) {P P' : Nat → Nat} (h : PEq (K 0 2) P P') (se : Nat) : ∀ n, PEq (K 0 2) (flT K se P n) (flT K se P' n)
  | 0 => h
  | n + 1 => by
    have ih := PEq_flT o h se n
    rw [flT_s, flT_s, ih.2 31 (by omega) (by omega)]
    exact PEq_psn o ih _ _
def flW (x n se : Nat) : Nat := x ^ onS se 12 * (10 - x) ^ (n - onS se 12)
def alF (x n : Nat) : Nat → Nat
  | 0 => 0
  | k + 1 => alF x n k + flW x n k
def soF (K : St) (P : Nat → Nat) (c s v x n : Nat) : Nat → Nat
  | 0 => 0
  | k + 1 => soF K P c s v x n k + (if v ≤ flT K k P n (6 + 5 * c + s) then flW x n k else 0)
theorem al_10 : ∀ x, x ≤ 10 → ∀ n, n ≤ 6 → alF x n (2 ^ n) = 10 ^ n := by decide +kernel
theorem on_le2 : ∀ n, n ≤ 6 → ∀ se, se < 2 ^ n → onS se 12 ≤ n := by decide +kernel
theorem alF_mono (x n : Nat) : ∀ {a b : Nat}, a ≤ b → alF x n a ≤ alF x n b := by
  intro a b h
  induction b with
  | zero => rw [show a = 0 by omega]; exact Nat.le_refl _
  | succ b ih =>
    rcases (show a ≤ b ∨ a = b + 1 by omega) with q | rfl
    · exact Nat.le_trans (ih q) (Nat.le_add_right _ _)
    · exact Nat.le_refl _
theorem soF_le (K : St) (P : Nat → Nat) (c s v x n : Nat) : ∀ k, soF K P c s v x n k ≤ alF x n k
  | 0 => Nat.le_refl _
  | k + 1 => by
    have := soF_le K P c s v x n k
    unfold soF alF
    split <;> omega
def flM (σ : St) (c s v n x up : Nat) : Nat := if c < σ 0 2 ∧ s < 5 then (if v ≤ 9 ∧ (1 ≤ n ∧ n ≤ 6) ∧ x ≤ 10 then (if up = 0 then 10 ^ n / Nat.gcd (soF σ (pM σ 0) c s v x n (2 ^ n)) (10 ^ n) else soF σ (pM σ 0) c s v x n (2 ^ n) / Nat.gcd (soF σ (pM σ 0) c s v x n (2 ^ n)) (10 ^ n)) else 4294967294) else 4294967295
set_option maxHeartbeats 4000000 in
set_option maxRecDepth 100000 in
theorem c_X5_fails {B : Bk} {σ : St} {c s v n x up : Nat} (hc : c < 2 ^ 32) (hs : s < 2 ^ 32) (hv : v < 2 ^ 32) (hn : n < 2 ^ 32) (hx : x < 2 ^ 32) (hu : up < 2) (g : GM σ) : MC yX5_fails cX5_fails 12 (some .int) 4 B [.ref (B.1 0), .int (nI c), .int (nI s), .int (nI v), .int (nI n), .int (nI x), .int (nI up)] σ (rI (flM σ c s v n x up) (TR σ)) := by
  obtain ⟨o, ht, hp, hd⟩ := g
  obtain ⟨o0, o1, o2, o3, o4, o5⟩ := id o
  have ht64 : σ 0 20 < 64 := by omega
  refine MC_int RX5 [some (.ref (B.1 0)), some (.int (nI c)), some (.int (nI s)), some (.int (nI v)), some (.int (nI n)), some (.int (nI x)), some (.int (nI up)), none, none, none, none, none] 5 (by decide +kernel) rfl rfl (Nat.le_of_ble_eq_true rfl) (fun E Q hret => ?_)
  refine V_aload_n (pc := 0) dX5_fails_0 rfl ?_
  refine V_iload_n (pc := 1) dX5_fails_1 rfl ?_
  refine V_callV_I (pc := 2) ff_X5_isChild ml_X5_153 (by first | rfl | assumption) rfl rfl (c_X5_isChild (by first | omega | assumption | exact and1_lt _ | exact nb_p) (by first | omega | assumption | exact and1_lt _ | exact nb_p)) dX5_fails_2 rfl rfl (by decide) (by decide) (Nat.le_of_ble_eq_true rfl) ?_
  refine V_ifb_eq (pc := 5) 15 dX5_fails_5 (by decide) (fun h_5 => ?_) (fun h_5 => ?_)
  · skip
    refine V_iconst (pc := 15) 4294967295 dX5_fails_15 (by decide) ?_
    exact hret _ _ _ _ dX5_fails_16 (rI_mk (by unfold flM; (repeat' split) <;> first | (exfalso; omega) | rfl) (TR.rf σ))
  · skip
    refine V_iload_n (pc := 8) dX5_fails_8 rfl ?_
    refine V_callS_I (pc := 9) ff_X5_isSubject ml_X5_156 (c_X5_isSubject (by first | omega | assumption | exact and1_lt _ | exact nb_p)) dX5_fails_9 rfl rfl (by decide) (by decide) (Nat.le_of_ble_eq_true rfl) ?_
    refine V_ifb_ne (pc := 12) 17 dX5_fails_12 (by decide) (fun h_12 => ?_) (fun h_12 => ?_)
    · skip
      refine V_iload_n (pc := 17) dX5_fails_17 rfl ?_
      refine V_i2l (pc := 18) dX5_fails_18 rfl ?_
      refine V_lconst (pc := 19) (v := lN 0) dX5_fails_19 rfl ?_
      refine V_ldc2N (pc := 20) (m := 9) kl_X5_186 rfl dX5_fails_20 ?_
      refine V_callS_I (pc := 23) ff_X5_in ml_X5_65 (c_X5_inI (by first | omega | assumption | exact and1_lt _ | exact nb_p) (by decide) (by decide)) dX5_fails_23 rfl rfl (by decide) (by decide) (Nat.le_of_ble_eq_true rfl) ?_
      refine V_ifb_eq (pc := 26) 55 dX5_fails_26 (by decide) (fun h_26 => ?_) (fun h_26 => ?_)
      · skip
        refine V_bipush (pc := 55) 4294967294 dX5_fails_55 (by decide) ?_
        exact hret _ _ _ _ dX5_fails_57 (rI_mk (by unfold flM; (repeat' split) <;> first | (exfalso; omega) | rfl) (TR.rf σ))
      · skip
        refine V_iload (pc := 29) dX5_fails_29 rfl ?_
        refine V_i2l (pc := 31) dX5_fails_31 rfl ?_
        refine V_lconst (pc := 32) (v := lN 1) dX5_fails_32 rfl ?_
        refine V_ldc2N (pc := 33) (m := 6) kl_X5_233 rfl dX5_fails_33 ?_
        refine V_callS_I (pc := 36) ff_X5_in ml_X5_65 (c_X5_inI (by first | omega | assumption | exact and1_lt _ | exact nb_p) (by decide) (by decide)) dX5_fails_36 rfl rfl (by decide) (by decide) (Nat.le_of_ble_eq_true rfl) ?_
        refine V_ifb_eq (pc := 39) 55 dX5_fails_39 (by decide) (fun h_39 => ?_) (fun h_39 => ?_)
        · skip
          refine V_bipush (pc := 55) 4294967294 dX5_fails_55 (by decide) ?_
          exact hret _ _ _ _ dX5_fails_57 (rI_mk (by unfold flM; (repeat' split) <;> first | (exfalso; omega) | rfl) (TR.rf σ))
        · skip
          refine V_iload (pc := 42) dX5_fails_42 rfl ?_
          refine V_i2l (pc := 44) dX5_fails_44 rfl ?_
          refine V_lconst (pc := 45) (v := lN 0) dX5_fails_45 rfl ?_
          refine V_ldc2N (pc := 46) (m := 10) kl_X5_235 rfl dX5_fails_46 ?_
          refine V_callS_I (pc := 49) ff_X5_in ml_X5_65 (c_X5_inI (by first | omega | assumption | exact and1_lt _ | exact nb_p) (by decide) (by decide)) dX5_fails_49 rfl rfl (by decide) (by decide) (Nat.le_of_ble_eq_true rfl) ?_
          refine V_ifb_ne (pc := 52) 58 dX5_fails_52 (by decide) (fun h_52 => ?_) (fun h_52 => ?_)
          · skip
            refine V_iconst (pc := 58) 0 dX5_fails_58 (by decide) ?_
            refine V_istore (pc := 59) dX5_fails_59 (by decide) rfl ?_
            refine V_iconst (pc := 61) 0 dX5_fails_61 (by decide) ?_
            refine V_istore (pc := 62) dX5_fails_62 (by decide) rfl ?_
            refine V_iconst (pc := 64) 0 dX5_fails_64 (by decide) ?_
            refine V_istore (pc := 65) dX5_fails_65 (by decide) rfl ?_
            have L_67 : ∀ (mO : Nat) (i so : Nat) (T : Nat → Nat) (y z : Option Value), 2 ^ n - i = mO → i ≤ 2 ^ n → so = soF σ (pM σ 0) c s v x n i → okS [some (.int 0), y] 1 = true → okS [some (.int 0), z] 1 = true → V E B RX5 cX5_fails 12 4 Q 67 [some (.ref (B.1 0)), some (.int (nI c)), some (.int (nI s)), some (.int (nI v)), some (.int (nI n)), some (.int (nI x)), some (.int (nI up)), some (.int (nI so)), some (.int (nI (alF x n i))), some (.int (nI i)), y, z] [] (stM σ 1 T) := by
              intro mO
              induction mO using Nat.strongRecOn with
              | _ mO ihO =>
                intro i so T y z hm hi hso hy hz
                have h64 : 2 ^ n ≤ 2 ^ 6 := Nat.pow_le_pow_right (by decide) h_39.2
                have hal := alF_mono x n hi
                have hte : 10 ^ n ≤ 10 ^ 6 := Nat.pow_le_pow_right (by decide) h_39.2
                rw [al_10 x h_52.2 n h_39.2] at hal
                have e1 : PEq (σ 0 2) (cp32 (pM σ 0) T) (pM σ 0) := cp_PEq _ o2 _ _
                have e2 : OKP (cp32 (pM σ 0) T) := cp_OKP hp _
                have e3 : cp32 (pM σ 0) T 31 = pM σ 0 31 := cp_lt (by decide)
                refine V_iload (pc := 67) dX5_fails_67 rfl ?_
                refine V_iconst (pc := 69) 1 dX5_fails_69 (by decide) ?_
                refine V_iload (pc := 70) dX5_fails_70 rfl ?_
                refine V_ishl (pc := 72) dX5_fails_72 (by first | omega | assumption | exact and1_lt _ | exact nb_p) ?_
                rw [Nat.one_mul]
                refine V_icmp_ge (pc := 73) 186 dX5_fails_73 (by decide) (by first | omega | assumption | exact and1_lt _ | exact nb_p) (by first | omega | assumption | exact and1_lt _ | exact nb_p) (fun h_73 => ?_) (fun h_73 => ?_)
                · skip
                  have hie : i = 2 ^ n := by omega
                  subst hie
                  rw [al_10 x h_52.2 n h_39.2]
                  have hsl := soF_le σ (pM σ 0) c s v x n (2 ^ n)
                  rw [al_10 x h_52.2 n h_39.2, ← hso] at hsl
                  have hgp : 0 < Nat.gcd so (10 ^ n) := Nat.gcd_pos_of_pos_right _ (Nat.pow_pos (by decide))
                  have hgl : Nat.gcd so (10 ^ n) ≤ 10 ^ n := Nat.le_of_dvd (Nat.pow_pos (by decide)) (Nat.gcd_dvd_right _ _)
                  refine V_iload (pc := 186) dX5_fails_186 rfl ?_
                  refine V_iload (pc := 188) dX5_fails_188 rfl ?_
                  refine V_callS_I (pc := 190) ff_X5_common ml_X5_222 (c_X5_common (Or.inr ⟨nI_pos (by omega), rfl⟩) (by omega) (by omega)) dX5_fails_190 rfl rfl (by decide) (by decide) (Nat.le_of_ble_eq_true rfl) ?_
                  refine V_istore (pc := 193) dX5_fails_193 (by decide) rfl ?_
                  refine V_iload (pc := 195) dX5_fails_195 rfl ?_
                  refine V_if_eq (pc := 197) 208 dX5_fails_197 (by decide) (by first | omega | assumption | exact and1_lt _ | exact nb_p) (fun h_197 => ?_) (fun h_197 => ?_)
                  · skip
                    refine V_iload (pc := 208) dX5_fails_208 rfl ?_
                    refine V_iload (pc := 210) dX5_fails_210 rfl ?_
                    refine V_idiv (pc := 212) dX5_fails_212 (by omega) hgp (by omega) ?_
                    exact hret _ _ _ _ dX5_fails_213 (rI_mk (by unfold flM; rw [if_pos ⟨by assumption, by assumption⟩, if_pos ⟨by omega, by assumption, by omega⟩, ← hso]; first | rw [if_pos (by assumption)] | rw [if_neg (by assumption)]) ⟨_, rfl⟩)
                  · skip
                    refine V_iload (pc := 200) dX5_fails_200 rfl ?_
                    refine V_iload (pc := 202) dX5_fails_202 rfl ?_
                    refine V_idiv (pc := 204) dX5_fails_204 (by omega) hgp (by omega) ?_
                    refine V_goto (pc := 205) 213 dX5_fails_205 (by decide) ?_
                    exact hret _ _ _ _ dX5_fails_213 (rI_mk (by unfold flM; rw [if_pos ⟨by assumption, by assumption⟩, if_pos ⟨by omega, by assumption, by omega⟩, ← hso]; first | rw [if_pos (by assumption)] | rw [if_neg (by assumption)]) ⟨_, rfl⟩)
                · skip
                  refine V_iload (pc := 76) dX5_fails_76 rfl ?_
                  refine V_iload (pc := 78) dX5_fails_78 rfl ?_
                  refine V_callS_I (pc := 80) ff_X5_ones ml_X5_213 (c_X5_ones (by first | omega | assumption | exact and1_lt _ | exact nb_p)) dX5_fails_80 rfl rfl (by decide) (by decide) (Nat.le_of_ble_eq_true rfl) ?_
                  have hon := on_le2 n h_39.2 i (by omega)
                  refine V_callS_I (pc := 83) ff_X5_power ml_X5_190 (c_X5_power (by first | omega | assumption)) dX5_fails_83 rfl rfl (by decide) (by decide) (Nat.le_of_ble_eq_true rfl) ?_
                  refine V_bipush (pc := 86) 10 dX5_fails_86 (by decide) ?_
                  refine V_iload (pc := 88) dX5_fails_88 rfl ?_
                  refine V_isub (pc := 90) dX5_fails_90 (by omega) ?_
                  refine V_iload (pc := 91) dX5_fails_91 rfl ?_
                  refine V_iload (pc := 93) dX5_fails_93 rfl ?_
                  refine V_callS_I (pc := 95) ff_X5_ones ml_X5_213 (c_X5_ones (by first | omega | assumption | exact and1_lt _ | exact nb_p)) dX5_fails_95 rfl rfl (by decide) (by decide) (Nat.le_of_ble_eq_true rfl) ?_
                  refine V_isub (pc := 98) dX5_fails_98 (by omega) ?_
                  refine V_callS_I (pc := 99) ff_X5_power ml_X5_190 (c_X5_power (by first | omega | assumption)) dX5_fails_99 rfl rfl (by decide) (by decide) (Nat.le_of_ble_eq_true rfl) ?_
                  refine V_imul (pc := 102) dX5_fails_102 ?_
                  rw [show x ^ onS i 12 * (10 - x) ^ (n - onS i 12) = flW x n i from rfl]
                  refine V_istore (pc := 103) dX5_fails_103 (by decide) rfl ?_
                  refine V_aload_n (pc := 105) dX5_fails_105 rfl ?_
                  refine V_callV_V (pc := 106) ff_X5_layTrial ml_X5_180 (by first | rfl | assumption) rfl rfl (c_X5_layTrial2) dX5_fails_106 rfl rfl (by decide) (by decide) (Nat.le_of_ble_eq_true rfl) ?_
                  refine V_iconst (pc := 109) 0 dX5_fails_109 (by decide) ?_
                  refine V_istore (pc := 110) dX5_fails_110 (by decide) rfl ?_
                  have L_112 : ∀ (m : Nat) (k : Nat), n - k = m → k ≤ n → V E B RX5 cX5_fails 12 4 Q 112 [some (.ref (B.1 0)), some (.int (nI c)), some (.int (nI s)), some (.int (nI v)), some (.int (nI n)), some (.int (nI x)), some (.int (nI up)), some (.int (nI so)), some (.int (nI (alF x n i))), some (.int (nI i)), some (.int (nI (flW x n i))), some (.int (nI k))] [] (stM σ 1 (flT σ i (cp32 (pM σ 0) T) k)) := by
                    intro m
                    induction m using Nat.strongRecOn with
                    | _ m ih =>
                      intro k hm2 hk
                      refine V_iload (pc := 112) dX5_fails_112 rfl ?_
                      refine V_iload (pc := 114) dX5_fails_114 rfl ?_
                      refine V_icmp_ge (pc := 116) 145 dX5_fails_116 (by decide) (by first | omega | assumption | exact and1_lt _ | exact nb_p) (by first | omega | assumption | exact and1_lt _ | exact nb_p) (fun h_116 => ?_) (fun h_116 => ?_)
                      · skip
                        rw [show k = n by omega]
                        have hv1 := (PEq_flT o e1 i n).2 (6 + 5 * c + s) (by omega) (by omega)
                        have hv2 := (OKP_flT o hp i n).2.2 (5 * c + s) (by omega)
                        rw [show 6 + (5 * c + s) = 6 + 5 * c + s by omega] at hv2
                        refine V_iload (pc := 145) dX5_fails_145 rfl ?_
                        refine V_iload (pc := 147) dX5_fails_147 rfl ?_
                        refine V_iadd (pc := 149) dX5_fails_149 ?_
                        refine V_istore (pc := 150) dX5_fails_150 (by decide) rfl ?_
                        refine V_iload (pc := 152) dX5_fails_152 rfl ?_
                        refine V_aload_n (pc := 154) dX5_fails_154 rfl ?_
                        refine G_X5_now (pc := 155) (by first | rfl | assumption) fl_X5_25 dX5_fails_155 ?_
                        refine V_bipush (pc := 158) 38 dX5_fails_158 (by decide) ?_
                        refine V_iconst (pc := 160) 5 dX5_fails_160 (by decide) ?_
                        refine V_iload_n (pc := 161) dX5_fails_161 rfl ?_
                        refine V_imul (pc := 162) dX5_fails_162 ?_
                        refine V_iadd (pc := 163) dX5_fails_163 ?_
                        refine V_iload_n (pc := 164) dX5_fails_164 rfl ?_
                        refine V_iadd (pc := 165) dX5_fails_165 ?_
                        refine V_iald (pc := 166) (by first | rfl | assumption) (by first | omega | assumption | exact and1_lt _ | exact nb_p) dX5_fails_166 ?_
                        rw [stM_g38, hv1]
                        refine V_iload_n (pc := 167) dX5_fails_167 rfl ?_
                        refine V_icmp_lt (pc := 168) 176 dX5_fails_168 (by decide) (by first | omega | assumption | exact and1_lt _ | exact nb_p) (by first | omega | assumption | exact and1_lt _ | exact nb_p) (fun h_168 => ?_) (fun h_168 => ?_)
                        · skip
                          refine V_iconst (pc := 176) 0 dX5_fails_176 (by decide) ?_
                          refine V_iadd (pc := 177) dX5_fails_177 ?_
                          refine V_istore (pc := 178) dX5_fails_178 (by decide) rfl ?_
                          refine V_iinc (pc := 180) 1 dX5_fails_180 (by decide) rfl (by decide) rfl ?_
                          refine V_goto (pc := 183) 67 dX5_fails_183 (by decide) ?_
                          exact ihO _ (by omega) (i + 1) _ _ _ _ rfl (by omega) (by rw [soF, hso]; split <;> first | (exfalso; omega) | rfl) rfl rfl
                        · skip
                          refine V_iload (pc := 171) dX5_fails_171 rfl ?_
                          refine V_goto (pc := 173) 177 dX5_fails_173 (by decide) ?_
                          refine V_iadd (pc := 177) dX5_fails_177 ?_
                          refine V_istore (pc := 178) dX5_fails_178 (by decide) rfl ?_
                          refine V_iinc (pc := 180) 1 dX5_fails_180 (by decide) rfl (by decide) rfl ?_
                          refine V_goto (pc := 183) 67 dX5_fails_183 (by decide) ?_
                          exact ihO _ (by omega) (i + 1) _ _ _ _ rfl (by omega) (by rw [soF, hso]; split <;> first | (exfalso; omega) | rfl) rfl rfl
                      · skip
                        refine V_aload_n (pc := 119) dX5_fails_119 rfl ?_
                        refine V_iconst (pc := 120) 1 dX5_fails_120 (by decide) ?_
                        refine V_iload (pc := 121) dX5_fails_121 rfl ?_
                        refine V_iload (pc := 123) dX5_fails_123 rfl ?_
                        refine V_callS_I (pc := 125) ff_X5_has ml_X5_80 (c_X5_has (by first | omega | assumption | exact and1_lt _ | exact nb_p) (by first | omega | assumption | exact and1_lt _ | exact nb_p)) dX5_fails_125 rfl rfl (by decide) (by decide) (Nat.le_of_ble_eq_true rfl) ?_
                        refine V_ifb_ne (pc := 128) 135 dX5_fails_128 (by decide) (fun h_128 => ?_) (fun h_128 => ?_)
                        · skip
                          refine V_iconst (pc := 135) 0 dX5_fails_135 (by decide) ?_
                          refine V_callV_V (pc := 136) ff_X5_passOn ml_X5_165 (by first | rfl | assumption) rfl rfl (c_X5_passOn2 o ht64 (by decide) (by decide) (OKP_flT o e2 i k) (by rw [flT_31 o, e3]; omega)) dX5_fails_136 rfl rfl (by decide) (by decide) (Nat.le_of_ble_eq_true rfl) ?_
                          refine V_iinc (pc := 139) 1 dX5_fails_139 (by decide) rfl (by decide) rfl ?_
                          refine V_goto (pc := 142) 112 dX5_fails_142 (by decide) ?_
                          have e := ih _ (by omega) (k + 1) rfl (by omega)
                          rw [flT_s] at e
                          rw [ht]
                          first | (rw [if_pos h_128] at e; exact e) | (rw [if_neg h_128] at e; exact e)
                        · skip
                          refine V_iconst (pc := 131) 1 dX5_fails_131 (by decide) ?_
                          refine V_goto (pc := 132) 136 dX5_fails_132 (by decide) ?_
                          refine V_callV_V (pc := 136) ff_X5_passOn ml_X5_165 (by first | rfl | assumption) rfl rfl (c_X5_passOn2 o ht64 (by decide) (by decide) (OKP_flT o e2 i k) (by rw [flT_31 o, e3]; omega)) dX5_fails_136 rfl rfl (by decide) (by decide) (Nat.le_of_ble_eq_true rfl) ?_
                          refine V_iinc (pc := 139) 1 dX5_fails_139 (by decide) rfl (by decide) rfl ?_
                          refine V_goto (pc := 142) 112 dX5_fails_142 (by decide) ?_
                          have e := ih _ (by omega) (k + 1) rfl (by omega)
                          rw [flT_s] at e
                          rw [ht]
                          first | (rw [if_pos h_128] at e; exact e) | (rw [if_neg h_128] at e; exact e)
                  exact L_112 _ 0 rfl (by omega)
            have e := L_67 _ 0 _ (pM σ 1) none none rfl (Nat.zero_le _) rfl rfl rfl
            rw [stM_self] at e
            exact e
          · skip
            refine V_bipush (pc := 55) 4294967294 dX5_fails_55 (by decide) ?_
            exact hret _ _ _ _ dX5_fails_57 (rI_mk (by unfold flM; (repeat' split) <;> first | (exfalso; omega) | rfl) (TR.rf σ))
    · skip
      refine V_iconst (pc := 15) 4294967295 dX5_fails_15 (by decide) ?_
      exact hret _ _ _ _ dX5_fails_16 (rI_mk (by unfold flM; (repeat' split) <;> first | (exfalso; omega) | rfl) (TR.rf σ))
