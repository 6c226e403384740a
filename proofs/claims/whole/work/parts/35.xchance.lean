/-! rests, tides that fail, generations: the class -/
theorem fix_gn {K : St} {P : Nat → Nat} {one other a b : Nat} (h1 : one < 5) (h2 : other < 5) : fup (fup (fup (fup P one (K 2 a)) 5 (P 5 ||| 1 * 2 ^ one)) other (K 2 b)) 5 (fup (fup P one (K 2 a)) 5 (P 5 ||| 1 * 2 ^ one) 5 ||| 1 * 2 ^ other) = gnP K P one other a b := by
  funext j
  unfold gnP gn2
  by_cases h : j = 5
  · subst h
    rw [fup_s, fup_s, fup_s, fup_o (by omega), fup_o (by omega), Nat.or_assoc]
  · rw [fup_o h, fup_o h]
    by_cases q : j = other
    · subst q
      rw [fup_s, fup_s]
    · rw [fup_o q, fup_o q, fup_o h]
theorem Z_gnP {K : St} {P : Nat → Nat} (h : Z32 P) {one other a b : Nat} (h1 : one < 5) (h2 : other < 5) : Z32 (gnP K P one other a b) := Z_fup (Z_fup (Z_fup h (by omega)) (by omega)) (by omega)
theorem c_fix48 {B : Bk} {w : St} {P : Nat → Nat} {c x : Nat} (hc : c < 5) : MC yX3_fix cX3_fix 3 none 1 B [.ref (B.1 48), .int (nI c), .int (nI x)] (stX w 48 P) (dV (stX w 48 (fup (fup P c x) 5 (P 5 ||| 1 * 2 ^ c)))) := by
  have h := c_X3_fix (B := B) (σ := stX w 48 P) (k := 48) (x := x) rfl hc
  rw [stX_pc _ _ _ _ hc, stX_m, stX_pm] at h
  exact h
def PW (σ w : St) (one other a b : Nat) : Prop := w 20 (a * 6 + b) = gnW (KX σ (σ 17 2)) (pX σ 45) one other a b one ∧ w 21 (a * 6 + b) = gnW (KX σ (σ 17 2)) (pX σ 45) one other a b other
def wpP (σ : St) (one other : Nat) (u : St) : Prop := ∃ w T, AW σ w ∧ OKP T ∧ Z32 T ∧ u = stX w 48 T ∧ ∀ a b, a < σ (σ 17 2) 8 → b < σ (σ 17 2) 8 → PW σ w one other a b
theorem AW_st {σ w : St} {T : Nat → Nat} (h : AW σ w) (hb : kd (σ 17 2) = (3, 0)) : stX w 48 T 17 2 = σ 17 2 ∧ stX w 48 T (σ 17 2) 8 = σ (σ 17 2) 8 ∧ stX w 48 T (σ 17 2 + 2) = σ (σ 17 2 + 2) := by
  have b8 := (kd3' hb).2.2.2.2.2.2.2
  refine ⟨?_, ?_, ?_⟩
  · rw [stX_o (by decide) (by decide) (by decide), h _ (by decide) (by decide) (by decide)]
  · rw [stX_o (by omega) (by omega) (by omega), h _ (by omega) (by omega) (by omega)]
  · rw [stX_o (by omega) (by omega) (by omega), h _ (by omega) (by omega) (by omega)]
theorem AW_pt {σ w : St} {k i x : Nat} (h : AW σ w) (hk : k = 19 ∨ k = 20 ∨ k = 21) : AW σ (pt w k i x) := fun j h1 h2 h3 => by rw [pt_o (by omega)]; exact h j h1 h2 h3
set_option maxHeartbeats 4000000 in
set_option maxRecDepth 100000 in
theorem c_X4_weighPairs {B : Bk} {σ : St} {one other : Nat} (h1 : one < 5) (h2 : other < 5) (g : GX σ) (h48 : OKP (pX σ 48)) : MC yX4_weighPairs cX4_weighPairs 5 none 5 B [.ref (B.1 17), .int (nI one), .int (nI other)] σ (rV (wpP σ one other)) := by
  obtain ⟨hx, hp, hd⟩ := id g
  have hb := hx.1
  obtain ⟨b1, b2, b3, b4, b5, b6, b7, b8⟩ := kd3' hb
  obtain ⟨o0, o1, o2, o3, o4, o5⟩ := id hx.2.1.1
  have n7 : σ (σ 17 2) 7 ≤ 4 := o0
  have n8 : σ (σ 17 2) 8 ≤ 6 := o1
  have n9 : σ (σ 17 2) 9 ≤ 5 := o2
  have hc5 : ∀ i, i < 5 → σ (45 + 1) i < 12 := fun i h => by have := hp.1 i h; rw [pX_c h] at this; exact this
  have hm5 : σ 45 2 < 32 := hp.2.1
  have hd3 : σ 45 3 ≤ 2 ^ 20 := hd
  have hgc : ∀ i, i < σ (σ 17 2) 8 → σ (σ 17 2 + 2) i < 12 := fun i h => (o4 i h).1
  have e02 : KX σ (σ 17 2) 0 2 = σ (σ 17 2) 9 := rfl
  have e01 : KX σ (σ 17 2) 0 1 = σ (σ 17 2) 8 := rfl
  have o : OKK (KX σ (σ 17 2)) := hx.2.1.1
  have s17 : ∀ {T : Nat → Nat}, stX σ 48 T 17 = σ 17 := fun {T} => stX_o (by decide) (by decide) (by decide)
  refine MC_void RX4 [some (.ref (B.1 17)), some (.int (nI one)), some (.int (nI other)), none, none] 2 (by decide +kernel) rfl rfl (Nat.le_of_ble_eq_true rfl) (fun E Q hret => ?_)
  refine V_iconst (pc := 0) 0 dX4_weighPairs_0 (by decide) ?_
  refine V_istore_n (pc := 1) dX4_weighPairs_1 (by decide) rfl ?_
  have L_2 : ∀ (mO : Nat) (a : Nat) (w : St) (T : Nat → Nat) (y : Option Value), σ (σ 17 2) 8 - a = mO → a ≤ σ (σ 17 2) 8 → AW σ w → OKP T → Z32 T → (∀ a2 b2, a2 < a → b2 < σ (σ 17 2) 8 → PW σ w one other a2 b2) → okS [none, none, none, some (.int 0), y] 4 = true → V E B RX4 cX4_weighPairs 5 5 Q 2 [some (.ref (B.1 17)), some (.int (nI one)), some (.int (nI other)), some (.int (nI a)), y] [] (stX w 48 T) := by
    intro mO
    induction mO using Nat.strongRecOn with
    | _ mO ihO =>
      intro a w T y hm ha hA hT hzT hP hy
      obtain ⟨s1, s2, s3⟩ := AW_st (T := T) hA hb
      refine V_iload_n (pc := 2) dX4_weighPairs_2 rfl ?_
      refine V_aload_n (pc := 3) dX4_weighPairs_3 rfl ?_
      refine G_X4_shore (pc := 4) (by first | rfl | assumption) fl_X4_16 dX4_weighPairs_4 ?_
      rw [s1]
      refine G_X0_grounds (pc := 7) hb fl_X4_88 dX4_weighPairs_7 ?_
      rw [s2]
      refine V_icmp_ge (pc := 10) 144 dX4_weighPairs_10 (by decide) (by first | omega | assumption | exact and1_lt _ | exact nb_p) (by first | omega | assumption | exact and1_lt _ | exact nb_p) (fun h_10 => ?_) (fun h_10 => ?_)
      · skip
        exact hret _ _ _ dX4_weighPairs_144 (rV_mk ⟨w, T, hA, hT, hzT, rfl, fun a2 b2 q1 q2 => hP a2 b2 (by omega) q2⟩)
      · skip
        refine V_iconst (pc := 13) 0 dX4_weighPairs_13 (by decide) ?_
        refine V_istore (pc := 14) dX4_weighPairs_14 (by decide) rfl ?_
        have L_16 : ∀ (m : Nat) (b : Nat) (w2 : St) (T2 : Nat → Nat), σ (σ 17 2) 8 - b = m → b ≤ σ (σ 17 2) 8 → AW σ w2 → OKP T2 → Z32 T2 → (∀ a2 b2, a2 < a → b2 < σ (σ 17 2) 8 → PW σ w2 one other a2 b2) → (∀ b2, b2 < b → PW σ w2 one other a b2) → V E B RX4 cX4_weighPairs 5 5 Q 16 [some (.ref (B.1 17)), some (.int (nI one)), some (.int (nI other)), some (.int (nI a)), some (.int (nI b))] [] (stX w2 48 T2) := by
          intro m
          induction m using Nat.strongRecOn with
          | _ m ih =>
            intro b w2 T2 hm2 hbb hA2 hT2 hzT2 hP2 hQ
            obtain ⟨s4, s5, s6⟩ := AW_st (T := T2) hA2 hb
            obtain ⟨g1, g2, g3, g4, g5⟩ := AW_ok hA2 g
            rw [g4] at g2
            have hxw : OKX w2 (σ 17 2) := g4 ▸ g1.1
            refine V_iload (pc := 16) dX4_weighPairs_16 rfl ?_
            refine V_aload_n (pc := 18) dX4_weighPairs_18 rfl ?_
            refine G_X4_shore (pc := 19) (by first | rfl | assumption) fl_X4_16 dX4_weighPairs_19 ?_
            rw [s4]
            refine G_X0_grounds (pc := 22) hb fl_X4_88 dX4_weighPairs_22 ?_
            rw [s5]
            refine V_icmp_ge (pc := 25) 138 dX4_weighPairs_25 (by decide) (by first | omega | assumption | exact and1_lt _ | exact nb_p) (by first | omega | assumption | exact and1_lt _ | exact nb_p) (fun h_25 => ?_) (fun h_25 => ?_)
            · skip
              refine V_iinc (pc := 138) 1 dX4_weighPairs_138 (by decide) rfl (by decide) rfl ?_
              refine V_goto (pc := 141) 2 dX4_weighPairs_141 (by decide) ?_
              exact ihO _ (by omega) (a + 1) w2 T2 _ rfl (by omega) hA2 hT2 hzT2 (fun a2 b2 q1 q2 => by
                rcases (show a2 < a ∨ a2 = a by omega) with z | z
                · exact hP2 a2 b2 z q2
                · rw [z]; exact hQ b2 (by omega)) rfl
            · skip
              refine V_aload_n (pc := 28) dX4_weighPairs_28 rfl ?_
              refine G_X4_trial (pc := 29) (by first | rfl | assumption) fl_X4_30 dX4_weighPairs_29 ?_
              refine V_aload_n (pc := 32) dX4_weighPairs_32 rfl ?_
              refine G_X4_now (pc := 33) (by first | rfl | assumption) fl_X4_26 dX4_weighPairs_33 ?_
              refine V_callV_V (pc := 36) ff_X3_take ml_X4_170 (by first | rfl | assumption) rfl rfl (c_take48) dX4_weighPairs_36 rfl rfl (by decide) (by decide) (Nat.le_of_ble_eq_true rfl) ?_
              rw [g3]
              obtain ⟨s7, s8, s9⟩ := AW_st (T := pX σ 45) hA2 hb
              have ca := hgc a (by omega)
              have cb := hgc b (by omega)
              refine V_aload_n (pc := 39) dX4_weighPairs_39 rfl ?_
              refine G_X4_trial (pc := 40) (by first | rfl | assumption) fl_X4_30 dX4_weighPairs_40 ?_
              refine V_iload_n (pc := 43) dX4_weighPairs_43 rfl ?_
              refine V_aload_n (pc := 44) dX4_weighPairs_44 rfl ?_
              refine G_X4_shore (pc := 45) (by first | rfl | assumption) fl_X4_16 dX4_weighPairs_45 ?_
              rw [s7]
              refine G_X0_groundCells (pc := 48) hb fl_X4_98 dX4_weighPairs_48 ?_
              refine V_iload_n (pc := 51) dX4_weighPairs_51 rfl ?_
              refine V_callS_I (pc := 52) ff_X4_at ml_X4_101 (c_X4_atI b2 (by omega)) dX4_weighPairs_52 rfl rfl (by decide) (by decide) (Nat.le_of_ble_eq_true rfl) ?_
              rw [s9]
              refine V_callV_V (pc := 55) ff_X3_fix ml_X4_290 (by first | rfl | assumption) rfl rfl (c_fix48 h1) dX4_weighPairs_55 rfl rfl (by decide) (by decide) (Nat.le_of_ble_eq_true rfl) ?_
              obtain ⟨s7, s8, s9⟩ := AW_st (T := fup (fup (pX σ 45) one (σ (σ 17 2 + 2) a)) 5 (pX σ 45 5 ||| 1 * 2 ^ one)) hA2 hb
              refine V_aload_n (pc := 58) dX4_weighPairs_58 rfl ?_
              refine G_X4_trial (pc := 59) (by first | rfl | assumption) fl_X4_30 dX4_weighPairs_59 ?_
              refine V_iload_n (pc := 62) dX4_weighPairs_62 rfl ?_
              refine V_aload_n (pc := 63) dX4_weighPairs_63 rfl ?_
              refine G_X4_shore (pc := 64) (by first | rfl | assumption) fl_X4_16 dX4_weighPairs_64 ?_
              rw [s7]
              refine G_X0_groundCells (pc := 67) hb fl_X4_98 dX4_weighPairs_67 ?_
              refine V_iload (pc := 70) dX4_weighPairs_70 rfl ?_
              refine V_callS_I (pc := 72) ff_X4_at ml_X4_101 (c_X4_atI b2 (by omega)) dX4_weighPairs_72 rfl rfl (by decide) (by decide) (Nat.le_of_ble_eq_true rfl) ?_
              rw [s9]
              refine V_callV_V (pc := 75) ff_X3_fix ml_X4_290 (by first | rfl | assumption) rfl rfl (c_fix48 h2) dX4_weighPairs_75 rfl rfl (by decide) (by decide) (Nat.le_of_ble_eq_true rfl) ?_
              rw [show fup (fup (fup (fup (pX σ 45) one (σ (σ 17 2 + 2) a)) 5 (pX σ 45 5 ||| 1 * 2 ^ one)) other (σ (σ 17 2 + 2) b)) 5 (fup (fup (pX σ 45) one (σ (σ 17 2 + 2) a)) 5 (pX σ 45 5 ||| 1 * 2 ^ one) 5 ||| 1 * 2 ^ other) = (gnP (KX σ (σ 17 2)) (pX σ 45) one other a b) from fix_gn (K := (KX σ (σ 17 2))) h1 h2]
              obtain ⟨s7, s8, s9⟩ := AW_st (T := (gnP (KX σ (σ 17 2)) (pX σ 45) one other a b)) hA2 hb
              have hO := OKP_gnP (K := (KX σ (σ 17 2))) hp h1 h2 (a := a) (b := b) ca cb
              have hZ := Z_gnP (K := (KX σ (σ 17 2))) (Z_pX σ 45) h1 h2 (a := a) (b := b)
              refine V_aload_n (pc := 78) dX4_weighPairs_78 rfl ?_
              refine G_X4_trial (pc := 79) (by first | rfl | assumption) fl_X4_30 dX4_weighPairs_79 ?_
              refine V_aload_n (pc := 82) dX4_weighPairs_82 rfl ?_
              refine G_X4_shore (pc := 83) (by first | rfl | assumption) fl_X4_16 dX4_weighPairs_83 ?_
              refine V_iconst (pc := 86) 5 dX4_weighPairs_86 (by decide) ?_
              rw [s7]
              refine V_callV_V (pc := 87) ff_X3_passDays ml_X4_173 (by first | rfl | assumption) rfl rfl (c_X3_passDays2 (k := 48) rfl hxw hZ hO (by rw [gnP_31 h1 h2]; omega)) dX4_weighPairs_87 rfl rfl (by decide) (by decide) (Nat.le_of_ble_eq_true rfl) ?_
              rw [g2]
              refine V_aload_n (pc := 90) dX4_weighPairs_90 rfl ?_
              refine G_X4_onesWeights (pc := 91) (by first | rfl | assumption) fl_X4_57 dX4_weighPairs_91 ?_
              refine V_iload_n (pc := 94) dX4_weighPairs_94 rfl ?_
              refine V_iload (pc := 95) dX4_weighPairs_95 rfl ?_
              refine V_callS_I (pc := 97) ff_X4_pair ml_X4_293 (c_X4_pair) dX4_weighPairs_97 rfl rfl (by decide) (by decide) (Nat.le_of_ble_eq_true rfl) ?_
              refine V_aload_n (pc := 100) dX4_weighPairs_100 rfl ?_
              refine G_X4_trial (pc := 101) (by first | rfl | assumption) fl_X4_30 dX4_weighPairs_101 ?_
              refine V_iload_n (pc := 104) dX4_weighPairs_104 rfl ?_
              refine V_callV_I (pc := 105) ff_X3_weight ml_X4_127 (by first | rfl | assumption) rfl rfl (c_X3_weight (k := 48) rfl h1) dX4_weighPairs_105 rfl rfl (by decide) (by decide) (Nat.le_of_ble_eq_true rfl) ?_
              rw [pX_stX _ _ (Z_itr o hZ 63 5)]
              refine V_callS_V (pc := 108) ff_X4_lay ml_X4_67 (c_X4_layI (n := 36) rfl (by omega)) dX4_weighPairs_108 rfl rfl (by decide) (by decide) (Nat.le_of_ble_eq_true rfl) ?_
              rw [pt_stX (by decide) (by decide) (by decide)]
              refine V_aload_n (pc := 111) dX4_weighPairs_111 rfl ?_
              refine G_X4_othersWeights (pc := 112) (by first | rfl | assumption) fl_X4_60 dX4_weighPairs_112 ?_
              refine V_iload_n (pc := 115) dX4_weighPairs_115 rfl ?_
              refine V_iload (pc := 116) dX4_weighPairs_116 rfl ?_
              refine V_callS_I (pc := 118) ff_X4_pair ml_X4_293 (c_X4_pair) dX4_weighPairs_118 rfl rfl (by decide) (by decide) (Nat.le_of_ble_eq_true rfl) ?_
              refine V_aload_n (pc := 121) dX4_weighPairs_121 rfl ?_
              refine G_X4_trial (pc := 122) (by first | rfl | assumption) fl_X4_30 dX4_weighPairs_122 ?_
              refine V_iload_n (pc := 125) dX4_weighPairs_125 rfl ?_
              refine V_callV_I (pc := 126) ff_X3_weight ml_X4_127 (by first | rfl | assumption) rfl rfl (c_X3_weight (k := 48) rfl h2) dX4_weighPairs_126 rfl rfl (by decide) (by decide) (Nat.le_of_ble_eq_true rfl) ?_
              rw [pX_stX _ _ (Z_itr o hZ 63 5)]
              refine V_callS_V (pc := 129) ff_X4_lay ml_X4_67 (c_X4_layI (n := 36) rfl (by omega)) dX4_weighPairs_129 rfl rfl (by decide) (by decide) (Nat.le_of_ble_eq_true rfl) ?_
              rw [pt_stX (by decide) (by decide) (by decide)]
              refine V_iinc (pc := 132) 1 dX4_weighPairs_132 (by decide) rfl (by decide) rfl ?_
              refine V_goto (pc := 135) 16 dX4_weighPairs_135 (by decide) ?_
              exact ih _ (by omega) (b + 1) _ _ rfl (by omega) (AW_pt (AW_pt hA2 (by omega)) (by omega)) (OKP_itr o hO 63 5) (Z_itr o hZ 63 5) (fun a2 b2 q1 q2 => by
                have := hP2 a2 b2 q1 q2
                unfold PW at *
                rw [pt_ne (by omega), pt_ne (by omega), pt_ne (by omega), pt_ne (by omega)]
                exact this) (fun b2 q => by
                rcases (show b2 < b ∨ b2 = b by omega) with z | z
                · have := hQ b2 z
                  unfold PW at *
                  rw [pt_ne (by omega), pt_ne (by omega), pt_ne (by omega), pt_ne (by omega)]
                  exact this
                · subst z
                  unfold PW
                  rw [pt_ne (by omega), pt_at, pt_at]
                  exact ⟨rfl, rfl⟩)
        exact L_16 _ 0 w T rfl (by omega) hA hT hzT hP (fun b2 q => absurd q (by omega))
  have e := L_2 _ 0 σ (pX σ 48) none rfl (by omega) (fun _ _ _ _ => rfl) h48 (Z_pX σ 48) (fun a2 b2 q => absurd q (by omega)) rfl
  rw [stX_self] at e
  exact e
set_option maxHeartbeats 4000000 in
set_option maxRecDepth 100000 in
theorem c_X4_isRest {B : Bk} {σ : St} {one other a b : Nat} {w : St} {T : Nat → Nat} (h1 : one < 5) (h2 : other < 5) (ha : a < σ (σ 17 2) 8) (hbb : b < σ (σ 17 2) 8) (g : GX σ) (hA : AW σ w) (hP : ∀ a b, a < σ (σ 17 2) 8 → b < σ (σ 17 2) 8 → PW σ w one other a b) : MC yX4_isRest cX4_isRest 6 (some .boolean) 1 B [.ref (B.1 17), .int (nI a), .int (nI b)] (stX w 48 T) (dI (if rsB (KX σ (σ 17 2)) (pX σ 45) one other a b (σ (σ 17 2) 8) then 1 else 0) (stX w 48 T)) := by
  obtain ⟨hx, hp, hd⟩ := id g
  have hb := hx.1
  obtain ⟨b1, b2, b3, b4, b5, b6, b7, b8⟩ := kd3' hb
  obtain ⟨o0, o1, o2, o3, o4, o5⟩ := id hx.2.1.1
  have n7 : σ (σ 17 2) 7 ≤ 4 := o0
  have n8 : σ (σ 17 2) 8 ≤ 6 := o1
  have n9 : σ (σ 17 2) 9 ≤ 5 := o2
  have hc5 : ∀ i, i < 5 → σ (45 + 1) i < 12 := fun i h => by have := hp.1 i h; rw [pX_c h] at this; exact this
  have hm5 : σ 45 2 < 32 := hp.2.1
  have hd3 : σ 45 3 ≤ 2 ^ 20 := hd
  have hgc : ∀ i, i < σ (σ 17 2) 8 → σ (σ 17 2 + 2) i < 12 := fun i h => (o4 i h).1
  have e02 : KX σ (σ 17 2) 0 2 = σ (σ 17 2) 9 := rfl
  have e01 : KX σ (σ 17 2) 0 1 = σ (σ 17 2) 8 := rfl
  have o : OKK (KX σ (σ 17 2)) := hx.2.1.1
  have s17 : ∀ {T : Nat → Nat}, stX σ 48 T 17 = σ 17 := fun {T} => stX_o (by decide) (by decide) (by decide)
  obtain ⟨s1, s2, s3⟩ := AW_st (T := T) hA hb
  have s20 : stX w 48 T 20 = w 20 := stX_o (by decide) (by decide) (by decide)
  have s21 : stX w 48 T 21 = w 21 := stX_o (by decide) (by decide) (by decide)
  have w1 := gnW_le o hp (one := one) (other := other) (a := a) (b := b) (who := one) h1 h2 (show a < KX σ (σ 17 2) 0 1 by omega) (show b < KX σ (σ 17 2) 0 1 by omega) h1
  have w2 := gnW_le o hp (one := one) (other := other) (a := a) (b := b) (who := other) h1 h2 (show a < KX σ (σ 17 2) 0 1 by omega) (show b < KX σ (σ 17 2) 0 1 by omega) h2
  refine MC_bool RX4 [some (.ref (B.1 17)), some (.int (nI a)), some (.int (nI b)), none, none, none] 3 (by decide +kernel) rfl rfl (Nat.le_of_ble_eq_true rfl) (fun E Q hret => ?_)
  refine V_aload_n (pc := 0) dX4_isRest_0 rfl ?_
  refine G_X4_onesWeights (pc := 1) (by first | rfl | assumption) fl_X4_57 dX4_isRest_1 ?_
  refine V_iload_n (pc := 4) dX4_isRest_4 rfl ?_
  refine V_iload_n (pc := 5) dX4_isRest_5 rfl ?_
  refine V_callS_I (pc := 6) ff_X4_pair ml_X4_293 (c_X4_pair) dX4_isRest_6 rfl rfl (by decide) (by decide) (Nat.le_of_ble_eq_true rfl) ?_
  refine V_callS_I (pc := 9) ff_X4_at ml_X4_101 (c_X4_atI (n := 36) rfl (by omega)) dX4_isRest_9 rfl rfl (by decide) (by decide) (Nat.le_of_ble_eq_true rfl) ?_
  rw [s20, (hP a b ha hbb).1]
  refine V_istore_n (pc := 12) dX4_isRest_12 (by decide) rfl ?_
  refine V_aload_n (pc := 13) dX4_isRest_13 rfl ?_
  refine G_X4_othersWeights (pc := 14) (by first | rfl | assumption) fl_X4_60 dX4_isRest_14 ?_
  refine V_iload_n (pc := 17) dX4_isRest_17 rfl ?_
  refine V_iload_n (pc := 18) dX4_isRest_18 rfl ?_
  refine V_callS_I (pc := 19) ff_X4_pair ml_X4_293 (c_X4_pair) dX4_isRest_19 rfl rfl (by decide) (by decide) (Nat.le_of_ble_eq_true rfl) ?_
  refine V_callS_I (pc := 22) ff_X4_at ml_X4_101 (c_X4_atI (n := 36) rfl (by omega)) dX4_isRest_22 rfl rfl (by decide) (by decide) (Nat.le_of_ble_eq_true rfl) ?_
  rw [s21, (hP a b ha hbb).2]
  refine V_istore (pc := 25) dX4_isRest_25 (by decide) rfl ?_
  refine V_iconst (pc := 27) 0 dX4_isRest_27 (by decide) ?_
  refine V_istore (pc := 28) dX4_isRest_28 (by decide) rfl ?_
  have L_30 : ∀ (m : Nat) (i : Nat), σ (σ 17 2) 8 - i = m → i ≤ σ (σ 17 2) 8 → rsB (KX σ (σ 17 2)) (pX σ 45) one other a b i → V E B RX4 cX4_isRest 6 1 Q 30 [some (.ref (B.1 17)), some (.int (nI a)), some (.int (nI b)), some (.int (nI (gnW (KX σ (σ 17 2)) (pX σ 45) one other a b one))), some (.int (nI (gnW (KX σ (σ 17 2)) (pX σ 45) one other a b other))), some (.int (nI i))] [] (stX w 48 T) := by
    intro m
    induction m using Nat.strongRecOn with
    | _ m ih =>
      intro i hm hi hr
      refine V_iload (pc := 30) dX4_isRest_30 rfl ?_
      refine V_aload_n (pc := 32) dX4_isRest_32 rfl ?_
      refine G_X4_shore (pc := 33) (by first | rfl | assumption) fl_X4_16 dX4_isRest_33 ?_
      rw [s1]
      refine G_X0_grounds (pc := 36) hb fl_X4_88 dX4_isRest_36 ?_
      rw [s2]
      refine V_icmp_ge (pc := 39) 85 dX4_isRest_39 (by decide) (by first | omega | assumption | exact and1_lt _ | exact nb_p) (by first | omega | assumption | exact and1_lt _ | exact nb_p) (fun h_39 => ?_) (fun h_39 => ?_)
      · skip
        refine V_iconst (pc := 85) 1 dX4_isRest_85 (by decide) ?_
        exact hret _ _ _ _ dX4_isRest_86 (by first | decide | omega | (split <;> omega)) (dI_mk (by rw [if_pos (fun k hk => hr k (by omega))]) rfl)
      · skip
        refine V_aload_n (pc := 42) dX4_isRest_42 rfl ?_
        refine G_X4_onesWeights (pc := 43) (by first | rfl | assumption) fl_X4_57 dX4_isRest_43 ?_
        refine V_iload (pc := 46) dX4_isRest_46 rfl ?_
        refine V_iload_n (pc := 48) dX4_isRest_48 rfl ?_
        refine V_callS_I (pc := 49) ff_X4_pair ml_X4_293 (c_X4_pair) dX4_isRest_49 rfl rfl (by decide) (by decide) (Nat.le_of_ble_eq_true rfl) ?_
        refine V_callS_I (pc := 52) ff_X4_at ml_X4_101 (c_X4_atI (n := 36) rfl (by omega)) dX4_isRest_52 rfl rfl (by decide) (by decide) (Nat.le_of_ble_eq_true rfl) ?_
        rw [s20, (hP i b (by omega) hbb).1]
        have w3 := gnW_le o hp (one := one) (other := other) (a := i) (b := b) (who := one) h1 h2 (show i < KX σ (σ 17 2) 0 1 by omega) (show b < KX σ (σ 17 2) 0 1 by omega) h1
        refine V_iload_n (pc := 55) dX4_isRest_55 rfl ?_
        refine V_icmp_gt (pc := 56) 77 dX4_isRest_56 (by decide) (by first | omega | assumption | exact and1_lt _ | exact nb_p) (by first | omega | assumption | exact and1_lt _ | exact nb_p) (fun h_56 => ?_) (fun h_56 => ?_)
        · skip
          refine V_iconst (pc := 77) 0 dX4_isRest_77 (by decide) ?_
          exact hret _ _ _ _ dX4_isRest_78 (by first | decide | omega | (split <;> omega)) (dI_mk (by rw [if_neg (fun q => by have := q i (by omega); omega)]) rfl)
        · skip
          refine V_aload_n (pc := 59) dX4_isRest_59 rfl ?_
          refine G_X4_othersWeights (pc := 60) (by first | rfl | assumption) fl_X4_60 dX4_isRest_60 ?_
          refine V_iload_n (pc := 63) dX4_isRest_63 rfl ?_
          refine V_iload (pc := 64) dX4_isRest_64 rfl ?_
          refine V_callS_I (pc := 66) ff_X4_pair ml_X4_293 (c_X4_pair) dX4_isRest_66 rfl rfl (by decide) (by decide) (Nat.le_of_ble_eq_true rfl) ?_
          refine V_callS_I (pc := 69) ff_X4_at ml_X4_101 (c_X4_atI (n := 36) rfl (by omega)) dX4_isRest_69 rfl rfl (by decide) (by decide) (Nat.le_of_ble_eq_true rfl) ?_
          rw [s21, (hP a i ha (by omega)).2]
          have w4 := gnW_le o hp (one := one) (other := other) (a := a) (b := i) (who := other) h1 h2 (show a < KX σ (σ 17 2) 0 1 by omega) (show i < KX σ (σ 17 2) 0 1 by omega) h2
          refine V_iload (pc := 72) dX4_isRest_72 rfl ?_
          refine V_icmp_le (pc := 74) 79 dX4_isRest_74 (by decide) (by first | omega | assumption | exact and1_lt _ | exact nb_p) (by first | omega | assumption | exact and1_lt _ | exact nb_p) (fun h_74 => ?_) (fun h_74 => ?_)
          · skip
            refine V_iinc (pc := 79) 1 dX4_isRest_79 (by decide) rfl (by decide) rfl ?_
            refine V_goto (pc := 82) 30 dX4_isRest_82 (by decide) ?_
            exact ih _ (by omega) (i + 1) rfl (by omega) (fun k hk => by
              rcases (show k < i ∨ k = i by omega) with h | rfl
              · exact hr k h
              · exact ⟨h_56, h_74⟩)
          · skip
            refine V_iconst (pc := 77) 0 dX4_isRest_77 (by decide) ?_
            exact hret _ _ _ _ dX4_isRest_78 (by first | decide | omega | (split <;> omega)) (dI_mk (by rw [if_neg (fun q => by have := q i (by omega); omega)]) rfl)
  exact L_30 _ 0 rfl (by omega) (fun k hk => absurd hk (by omega))
def reG (K : St) (P : Nat → Nat) (one other w : Nat) : Nat := if one < K 0 2 ∧ other < K 0 2 then (if one ≠ other ∧ w ≤ 1 then (if w = 0 then (rtF K P one other (K 0 1 * K 0 1)).1 else (rtF K P one other (K 0 1 * K 0 1)).2) else 4294967294) else 4294967295
theorem dm {n a b : Nat} (hb : b < n) : (a * n + b) / n = a ∧ (a * n + b) % n = b := by
  have h0 : 0 < n := by omega
  constructor
  · rw [Nat.mul_comm, Nat.mul_add_div h0, Nat.div_eq_of_lt hb, Nat.add_zero]
  · rw [Nat.mul_comm, Nat.mul_add_mod, Nat.mod_eq_of_lt hb]
set_option maxHeartbeats 4000000 in
set_option maxRecDepth 100000 in
theorem c_X4_rests {B : Bk} {σ : St} {one other x : Nat} (h1 : one < 2 ^ 32) (h2 : other < 2 ^ 32) (hxx : x < 2 ^ 32) (g : GX σ) (h48 : OKP (pX σ 48)) : MC yX4_rests cX4_rests 8 (some .int) 6 B [.ref (B.1 17), .int (nI one), .int (nI other), .int (nI x)] σ (rI (reG (KX σ (σ 17 2)) (pX σ 45) one other x) (TW σ)) := by
  obtain ⟨hx, hp, hd⟩ := id g
  have hb := hx.1
  obtain ⟨b1, b2, b3, b4, b5, b6, b7, b8⟩ := kd3' hb
  obtain ⟨o0, o1, o2, o3, o4, o5⟩ := id hx.2.1.1
  have n7 : σ (σ 17 2) 7 ≤ 4 := o0
  have n8 : σ (σ 17 2) 8 ≤ 6 := o1
  have n9 : σ (σ 17 2) 9 ≤ 5 := o2
  have hc5 : ∀ i, i < 5 → σ (45 + 1) i < 12 := fun i h => by have := hp.1 i h; rw [pX_c h] at this; exact this
  have hm5 : σ 45 2 < 32 := hp.2.1
  have hd3 : σ 45 3 ≤ 2 ^ 20 := hd
  have hgc : ∀ i, i < σ (σ 17 2) 8 → σ (σ 17 2 + 2) i < 12 := fun i h => (o4 i h).1
  have e02 : KX σ (σ 17 2) 0 2 = σ (σ 17 2) 9 := rfl
  have e01 : KX σ (σ 17 2) 0 1 = σ (σ 17 2) 8 := rfl
  have o : OKK (KX σ (σ 17 2)) := hx.2.1.1
  have s17 : ∀ {T : Nat → Nat}, stX σ 48 T 17 = σ 17 := fun {T} => stX_o (by decide) (by decide) (by decide)
  refine MC_int RX4 [some (.ref (B.1 17)), some (.int (nI one)), some (.int (nI other)), some (.int (nI x)), none, none, none, none] 4 (by decide +kernel) rfl rfl (Nat.le_of_ble_eq_true rfl) (fun E Q hret => ?_)
  refine V_aload_n (pc := 0) dX4_rests_0 rfl ?_
  refine V_iload_n (pc := 1) dX4_rests_1 rfl ?_
  refine V_callV_I (pc := 2) ff_X4_isChild ml_X4_115 (by first | rfl | assumption) rfl rfl (c_X4_isChild (by assumption) (by first | omega | assumption | exact and1_lt _ | exact nb_p) (by omega)) dX4_rests_2 rfl rfl (by decide) (by decide) (Nat.le_of_ble_eq_true rfl) ?_
  refine V_ifb_eq (pc := 5) 16 dX4_rests_5 (by decide) (fun h_5 => ?_) (fun h_5 => ?_)
  · skip
    refine V_iconst (pc := 16) 4294967295 dX4_rests_16 (by decide) ?_
    exact hret _ _ _ _ dX4_rests_17 (rI_mk (by unfold reG; (repeat' split) <;> first | (exfalso; omega) | rfl) (TW.rf h48))
  · skip
    refine V_aload_n (pc := 8) dX4_rests_8 rfl ?_
    refine V_iload_n (pc := 9) dX4_rests_9 rfl ?_
    refine V_callV_I (pc := 10) ff_X4_isChild ml_X4_115 (by first | rfl | assumption) rfl rfl (c_X4_isChild (by assumption) (by first | omega | assumption | exact and1_lt _ | exact nb_p) (by omega)) dX4_rests_10 rfl rfl (by decide) (by decide) (Nat.le_of_ble_eq_true rfl) ?_
    refine V_ifb_ne (pc := 13) 18 dX4_rests_13 (by decide) (fun h_13 => ?_) (fun h_13 => ?_)
    · skip
      refine V_iload_n (pc := 18) dX4_rests_18 rfl ?_
      refine V_iload_n (pc := 19) dX4_rests_19 rfl ?_
      refine V_icmp_eq (pc := 20) 32 dX4_rests_20 (by decide) (by omega) (by omega) (fun h_20 => ?_) (fun h_20 => ?_)
      · skip
        refine V_bipush (pc := 32) 4294967294 dX4_rests_32 (by decide) ?_
        exact hret _ _ _ _ dX4_rests_34 (rI_mk (by unfold reG; (repeat' split) <;> first | (exfalso; omega) | rfl) (TW.rf h48))
      · skip
        refine V_iload_n (pc := 23) dX4_rests_23 rfl ?_
        refine V_if_lt (pc := 24) 32 dX4_rests_24 (by decide) (by first | omega | assumption | exact and1_lt _ | exact nb_p) (fun h_24 => ?_) (fun h_24 => ?_)
        · skip
          refine V_bipush (pc := 32) 4294967294 dX4_rests_32 (by decide) ?_
          exact hret _ _ _ _ dX4_rests_34 (rI_mk (by unfold reG; (repeat' split) <;> first | (exfalso; omega) | rfl) (TW.rf h48))
        · skip
          refine V_iload_n (pc := 27) dX4_rests_27 rfl ?_
          refine V_iconst (pc := 28) 1 dX4_rests_28 (by decide) ?_
          refine V_icmp_le (pc := 29) 35 dX4_rests_29 (by decide) (by first | omega | assumption | exact and1_lt _ | exact nb_p) (by first | omega | assumption | exact and1_lt _ | exact nb_p) (fun h_29 => ?_) (fun h_29 => ?_)
          · skip
            refine V_aload_n (pc := 35) dX4_rests_35 rfl ?_
            refine V_iload_n (pc := 36) dX4_rests_36 rfl ?_
            refine V_iload_n (pc := 37) dX4_rests_37 rfl ?_
            refine V_callV_rV (pc := 38) ff_X4_weighPairs ml_X4_213 (by first | rfl | assumption) rfl rfl (c_X4_weighPairs (by omega) (by omega) g h48) dX4_rests_38 rfl rfl (by decide) (by decide) (Nat.le_of_ble_eq_true rfl) (fun u hu => ?_)
            obtain ⟨w, T, hA, hT, hzT, rfl, hP⟩ := hu
            obtain ⟨s1, s2, s3⟩ := AW_st (T := T) hA hb
            refine V_iconst (pc := 41) 0 dX4_rests_41 (by decide) ?_
            refine V_istore (pc := 42) dX4_rests_42 (by decide) rfl ?_
            refine V_bipush (pc := 44) 4294967287 dX4_rests_44 (by decide) ?_
            refine V_istore (pc := 46) dX4_rests_46 (by decide) rfl ?_
            refine V_iconst (pc := 48) 0 dX4_rests_48 (by decide) ?_
            refine V_istore (pc := 49) dX4_rests_49 (by decide) rfl ?_
            have L_51 : ∀ (mO : Nat) (a : Nat) (y : Option Value), σ (σ 17 2) 8 - a = mO → a ≤ σ (σ 17 2) 8 → okS [none, none, none, none, none, none, some (.int 0), y] 7 = true → V E B RX4 cX4_rests 8 6 Q 51 [some (.ref (B.1 17)), some (.int (nI one)), some (.int (nI other)), some (.int (nI x)), some (.int (nI (rtF (KX σ (σ 17 2)) (pX σ 45) one other (a * σ (σ 17 2) 8)).1)), some (.int (nI (rtF (KX σ (σ 17 2)) (pX σ 45) one other (a * σ (σ 17 2) 8)).2)), some (.int (nI a)), y] [] (stX w 48 T) := by
              intro mO
              induction mO using Nat.strongRecOn with
              | _ mO ihO =>
                intro a y hm ha hy
                refine V_iload (pc := 51) dX4_rests_51 rfl ?_
                refine V_aload_n (pc := 53) dX4_rests_53 rfl ?_
                refine G_X4_shore (pc := 54) (by first | rfl | assumption) fl_X4_16 dX4_rests_54 ?_
                rw [s1]
                refine G_X0_grounds (pc := 57) hb fl_X4_88 dX4_rests_57 ?_
                rw [s2]
                refine V_icmp_ge (pc := 60) 124 dX4_rests_60 (by decide) (by first | omega | assumption | exact and1_lt _ | exact nb_p) (by first | omega | assumption | exact and1_lt _ | exact nb_p) (fun h_60 => ?_) (fun h_60 => ?_)
                · skip
                  refine V_iload_n (pc := 124) dX4_rests_124 rfl ?_
                  refine V_if_ne (pc := 125) 133 dX4_rests_125 (by decide) (by first | omega | assumption | exact and1_lt _ | exact nb_p) (fun h_125 => ?_) (fun h_125 => ?_)
                  · skip
                    refine V_iload (pc := 133) dX4_rests_133 rfl ?_
                    exact hret _ _ _ _ dX4_rests_135 (rI_mk (by unfold reG; rw [if_pos (by omega), if_pos (by omega), e01]; rw [show a = σ (σ 17 2) 8 by omega]; first | (rw [if_pos (by omega)]; done) | rw [if_neg (by omega)]) ⟨w, T, hA, hT, hzT, rfl⟩)
                  · skip
                    refine V_iload (pc := 128) dX4_rests_128 rfl ?_
                    refine V_goto (pc := 130) 135 dX4_rests_130 (by decide) ?_
                    exact hret _ _ _ _ dX4_rests_135 (rI_mk (by unfold reG; rw [if_pos (by omega), if_pos (by omega), e01]; rw [show a = σ (σ 17 2) 8 by omega]; first | (rw [if_pos (by omega)]; done) | rw [if_neg (by omega)]) ⟨w, T, hA, hT, hzT, rfl⟩)
                · skip
                  refine V_iconst (pc := 63) 0 dX4_rests_63 (by decide) ?_
                  refine V_istore (pc := 64) dX4_rests_64 (by decide) rfl ?_
                  have L_66 : ∀ (m : Nat) (b : Nat), σ (σ 17 2) 8 - b = m → b ≤ σ (σ 17 2) 8 → V E B RX4 cX4_rests 8 6 Q 66 [some (.ref (B.1 17)), some (.int (nI one)), some (.int (nI other)), some (.int (nI x)), some (.int (nI (rtF (KX σ (σ 17 2)) (pX σ 45) one other (a * σ (σ 17 2) 8 + b)).1)), some (.int (nI (rtF (KX σ (σ 17 2)) (pX σ 45) one other (a * σ (σ 17 2) 8 + b)).2)), some (.int (nI a)), some (.int (nI b))] [] (stX w 48 T) := by
                    intro m
                    induction m using Nat.strongRecOn with
                    | _ m ih =>
                      intro b hm2 hbb
                      have hrl := rtF_le (KX σ (σ 17 2)) (pX σ 45) one other (a * σ (σ 17 2) 8 + b)
                      have hsq : a * σ (σ 17 2) 8 ≤ 6 * 6 := Nat.mul_le_mul (by omega) n8
                      refine V_iload (pc := 66) dX4_rests_66 rfl ?_
                      refine V_aload_n (pc := 68) dX4_rests_68 rfl ?_
                      refine G_X4_shore (pc := 69) (by first | rfl | assumption) fl_X4_16 dX4_rests_69 ?_
                      rw [s1]
                      refine G_X0_grounds (pc := 72) hb fl_X4_88 dX4_rests_72 ?_
                      rw [s2]
                      refine V_icmp_ge (pc := 75) 118 dX4_rests_75 (by decide) (by first | omega | assumption | exact and1_lt _ | exact nb_p) (by first | omega | assumption | exact and1_lt _ | exact nb_p) (fun h_75 => ?_) (fun h_75 => ?_)
                      · skip
                        refine V_iinc (pc := 118) 1 dX4_rests_118 (by decide) rfl (by decide) rfl ?_
                        refine V_goto (pc := 121) 51 dX4_rests_121 (by decide) ?_
                        have e := ihO _ (by omega) (a + 1) (some (.int (nI b))) rfl (by omega) rfl
                        rw [show (a + 1) * σ (σ 17 2) 8 = a * σ (σ 17 2) 8 + b by rw [Nat.succ_mul, show b = σ (σ 17 2) 8 by omega]] at e
                        exact e
                      · skip
                        refine V_aload_n (pc := 78) dX4_rests_78 rfl ?_
                        refine V_iload (pc := 79) dX4_rests_79 rfl ?_
                        refine V_iload (pc := 81) dX4_rests_81 rfl ?_
                        refine V_callV_I (pc := 83) ff_X4_isRest ml_X4_217 (by first | rfl | assumption) rfl rfl (c_X4_isRest (T := T) (by omega) (by omega) (by omega) (by omega) g hA hP) dX4_rests_83 rfl rfl (by decide) (by decide) (Nat.le_of_ble_eq_true rfl) ?_
                        refine V_ifb_eq (pc := 86) 112 dX4_rests_86 (by decide) (fun h_86 => ?_) (fun h_86 => ?_)
                        · skip
                          refine V_iinc (pc := 112) 1 dX4_rests_112 (by decide) rfl (by decide) rfl ?_
                          refine V_goto (pc := 115) 66 dX4_rests_115 (by decide) ?_
                          have e := ih _ (by omega) (b + 1) rfl (by omega)
                          rw [← Nat.add_assoc, rtF_s, e01, (dm (a := a) (show b < σ (σ 17 2) 8 by omega)).1, (dm (a := a) (show b < σ (σ 17 2) 8 by omega)).2] at e
                          first | (rw [if_neg h_86] at e; exact e) | (rw [if_pos h_86] at e; first | (rw [if_pos h_91] at e; exact e) | (rw [if_neg h_91] at e; exact e))
                        · skip
                          refine V_iload (pc := 89) dX4_rests_89 rfl ?_
                          refine V_if_ne (pc := 91) 105 dX4_rests_91 (by decide) (by omega) (fun h_91 => ?_) (fun h_91 => ?_)
                          · skip
                            refine V_iload (pc := 105) dX4_rests_105 rfl ?_
                            refine V_istore (pc := 107) dX4_rests_107 (by decide) rfl ?_
                            refine V_iinc (pc := 109) 1 dX4_rests_109 (by decide) rfl (by decide) rfl ?_
                            refine V_iinc (pc := 112) 1 dX4_rests_112 (by decide) rfl (by decide) rfl ?_
                            refine V_goto (pc := 115) 66 dX4_rests_115 (by decide) ?_
                            have e := ih _ (by omega) (b + 1) rfl (by omega)
                            rw [← Nat.add_assoc, rtF_s, e01, (dm (a := a) (show b < σ (σ 17 2) 8 by omega)).1, (dm (a := a) (show b < σ (σ 17 2) 8 by omega)).2] at e
                            first | (rw [if_neg h_86] at e; exact e) | (rw [if_pos h_86] at e; first | (rw [if_pos h_91] at e; exact e) | (rw [if_neg h_91] at e; exact e))
                          · skip
                            refine V_bipush (pc := 94) 10 dX4_rests_94 (by decide) ?_
                            refine V_iload (pc := 96) dX4_rests_96 rfl ?_
                            refine V_imul (pc := 98) dX4_rests_98 ?_
                            refine V_iload (pc := 99) dX4_rests_99 rfl ?_
                            refine V_iadd (pc := 101) dX4_rests_101 ?_
                            refine V_goto (pc := 102) 107 dX4_rests_102 (by decide) ?_
                            refine V_istore (pc := 107) dX4_rests_107 (by decide) rfl ?_
                            refine V_iinc (pc := 109) 1 dX4_rests_109 (by decide) rfl (by decide) rfl ?_
                            refine V_iinc (pc := 112) 1 dX4_rests_112 (by decide) rfl (by decide) rfl ?_
                            refine V_goto (pc := 115) 66 dX4_rests_115 (by decide) ?_
                            have e := ih _ (by omega) (b + 1) rfl (by omega)
                            rw [← Nat.add_assoc, rtF_s, e01, (dm (a := a) (show b < σ (σ 17 2) 8 by omega)).1, (dm (a := a) (show b < σ (σ 17 2) 8 by omega)).2] at e
                            first | (rw [if_neg h_86] at e; exact e) | (rw [if_pos h_86] at e; first | (rw [if_pos h_91] at e; exact e) | (rw [if_neg h_91] at e; exact e))
                  exact L_66 _ 0 rfl (by omega)
            have e := L_51 _ 0 none rfl (by omega) rfl
            rw [Nat.zero_mul] at e
            exact e
          · skip
            refine V_bipush (pc := 32) 4294967294 dX4_rests_32 (by decide) ?_
            exact hret _ _ _ _ dX4_rests_34 (rI_mk (by unfold reG; (repeat' split) <;> first | (exfalso; omega) | rfl) (TW.rf h48))
    · skip
      refine V_iconst (pc := 16) 4294967295 dX4_rests_16 (by decide) ?_
      exact hret _ _ _ _ dX4_rests_17 (rI_mk (by unfold reG; (repeat' split) <;> first | (exfalso; omega) | rfl) (TW.rf h48))
theorem Z_flT {K : St} (o : OKK K) {P : Nat → Nat} (h : Z32 P) (se : Nat) : ∀ n, Z32 (flT K se P n)
  | 0 => h
  | n + 1 => Z_psn o (Z_flT o h se n) _ _
set_option maxHeartbeats 4000000 in
set_option maxRecDepth 100000 in
theorem c_X4_tryFailingDays {B : Bk} {σ : St} {f n : Nat} {T : Nat → Nat} (g : GX σ) (hf : f < 64) (hn : n ≤ 6) : MC yX4_tryFailingDays cX4_tryFailingDays 4 none 4 B [.ref (B.1 17), .int (nI f), .int (nI n)] (stX σ 48 T) (dV (stX σ 48 (flT (KX σ (σ 17 2)) f (pX σ 45) n))) := by
  obtain ⟨hx, hp, hd⟩ := id g
  have hb := hx.1
  obtain ⟨b1, b2, b3, b4, b5, b6, b7, b8⟩ := kd3' hb
  obtain ⟨o0, o1, o2, o3, o4, o5⟩ := id hx.2.1.1
  have n7 : σ (σ 17 2) 7 ≤ 4 := o0
  have n8 : σ (σ 17 2) 8 ≤ 6 := o1
  have n9 : σ (σ 17 2) 9 ≤ 5 := o2
  have hc5 : ∀ i, i < 5 → σ (45 + 1) i < 12 := fun i h => by have := hp.1 i h; rw [pX_c h] at this; exact this
  have hm5 : σ 45 2 < 32 := hp.2.1
  have hd3 : σ 45 3 ≤ 2 ^ 20 := hd
  have hgc : ∀ i, i < σ (σ 17 2) 8 → σ (σ 17 2 + 2) i < 12 := fun i h => (o4 i h).1
  have e02 : KX σ (σ 17 2) 0 2 = σ (σ 17 2) 9 := rfl
  have e01 : KX σ (σ 17 2) 0 1 = σ (σ 17 2) 8 := rfl
  have o : OKK (KX σ (σ 17 2)) := hx.2.1.1
  have s17 : ∀ {T : Nat → Nat}, stX σ 48 T 17 = σ 17 := fun {T} => stX_o (by decide) (by decide) (by decide)
  refine MC_void RX4 [some (.ref (B.1 17)), some (.int (nI f)), some (.int (nI n)), none] 1 (by decide +kernel) rfl rfl (Nat.le_of_ble_eq_true rfl) (fun E Q hret => ?_)
  refine V_aload_n (pc := 0) dX4_tryFailingDays_0 rfl ?_
  refine G_X4_trial (pc := 1) (by first | rfl | assumption) fl_X4_30 dX4_tryFailingDays_1 ?_
  refine V_aload_n (pc := 4) dX4_tryFailingDays_4 rfl ?_
  refine G_X4_now (pc := 5) (by first | rfl | assumption) fl_X4_26 dX4_tryFailingDays_5 ?_
  refine V_callV_V (pc := 8) ff_X3_take ml_X4_170 (by first | rfl | assumption) rfl rfl (c_take48) dX4_tryFailingDays_8 rfl rfl (by decide) (by decide) (Nat.le_of_ble_eq_true rfl) ?_
  refine V_iconst (pc := 11) 0 dX4_tryFailingDays_11 (by decide) ?_
  refine V_istore_n (pc := 12) dX4_tryFailingDays_12 (by decide) rfl ?_
  have L_13 : ∀ (m : Nat) (i : Nat), n - i = m → i ≤ n → V E B RX4 cX4_tryFailingDays 4 4 Q 13 [some (.ref (B.1 17)), some (.int (nI f)), some (.int (nI n)), some (.int (nI i))] [] (stX σ 48 (flT (KX σ (σ 17 2)) f (pX σ 45) i)) := by
    intro m
    induction m using Nat.strongRecOn with
    | _ m ih =>
      intro i hm hi
      refine V_iload_n (pc := 13) dX4_tryFailingDays_13 rfl ?_
      refine V_iload_n (pc := 14) dX4_tryFailingDays_14 rfl ?_
      refine V_icmp_ge (pc := 15) 50 dX4_tryFailingDays_15 (by decide) (by first | omega | assumption | exact and1_lt _ | exact nb_p) (by first | omega | assumption | exact and1_lt _ | exact nb_p) (fun h_15 => ?_) (fun h_15 => ?_)
      · skip
        exact hret _ _ _ dX4_tryFailingDays_50 (dV_mk (by rw [show i = n by omega]))
      · skip
        refine V_aload_n (pc := 18) dX4_tryFailingDays_18 rfl ?_
        refine G_X4_trial (pc := 19) (by first | rfl | assumption) fl_X4_30 dX4_tryFailingDays_19 ?_
        refine V_aload_n (pc := 22) dX4_tryFailingDays_22 rfl ?_
        refine G_X4_shore (pc := 23) (by first | rfl | assumption) fl_X4_16 dX4_tryFailingDays_23 ?_
        rw [s17]
        refine V_iload_n (pc := 26) dX4_tryFailingDays_26 rfl ?_
        refine V_iload_n (pc := 27) dX4_tryFailingDays_27 rfl ?_
        refine V_ishr (pc := 28) dX4_tryFailingDays_28 (by first | omega | assumption | exact and1_lt _ | exact nb_p) (by first | omega | assumption | exact and1_lt _ | exact nb_p) ?_
        refine V_iconst (pc := 29) 1 dX4_tryFailingDays_29 (by decide) ?_
        refine V_iand (pc := 30) dX4_tryFailingDays_30 ?_
        refine V_if_ne (pc := 31) 38 dX4_tryFailingDays_31 (by decide) (Nat.lt_trans (and1_lt _) (by decide)) (fun h_31 => ?_) (fun h_31 => ?_)
        · skip
          have hbit : f.testBit i = true := tb_and.mp (by have := and1_z (f / 2 ^ i); omega)
          refine V_iconst (pc := 38) 0 dX4_tryFailingDays_38 (by decide) ?_
          refine V_bipush (pc := 39) 63 dX4_tryFailingDays_39 (by decide) ?_
          refine V_callV_V (pc := 41) ff_X3_pass ml_X4_144 (by first | rfl | assumption) rfl rfl (c_X3_pass2 (k := 48) rfl hx (Z_flT o (Z_pX σ 45) f i) (OKP_flT o hp f i) (by decide) (by decide) (by rw [flT_31 o]; omega)) dX4_tryFailingDays_41 rfl rfl (by decide) (by decide) (Nat.le_of_ble_eq_true rfl) ?_
          refine V_iinc (pc := 44) 1 dX4_tryFailingDays_44 (by decide) rfl (by decide) rfl ?_
          refine V_goto (pc := 47) 13 dX4_tryFailingDays_47 (by decide) ?_
          have e := ih _ (by omega) (i + 1) rfl (by omega)
          rw [flT_s] at e
          first | (rw [if_pos (by assumption)] at e; exact e) | (rw [if_neg (by assumption)] at e; exact e)
        · skip
          have hbit : ¬ f.testBit i = true := fun z => by have := tb_and.mpr z; omega
          refine V_iconst (pc := 34) 1 dX4_tryFailingDays_34 (by decide) ?_
          refine V_goto (pc := 35) 39 dX4_tryFailingDays_35 (by decide) ?_
          refine V_bipush (pc := 39) 63 dX4_tryFailingDays_39 (by decide) ?_
          refine V_callV_V (pc := 41) ff_X3_pass ml_X4_144 (by first | rfl | assumption) rfl rfl (c_X3_pass2 (k := 48) rfl hx (Z_flT o (Z_pX σ 45) f i) (OKP_flT o hp f i) (by decide) (by decide) (by rw [flT_31 o]; omega)) dX4_tryFailingDays_41 rfl rfl (by decide) (by decide) (Nat.le_of_ble_eq_true rfl) ?_
          refine V_iinc (pc := 44) 1 dX4_tryFailingDays_44 (by decide) rfl (by decide) rfl ?_
          refine V_goto (pc := 47) 13 dX4_tryFailingDays_47 (by decide) ?_
          have e := ih _ (by omega) (i + 1) rfl (by omega)
          rw [flT_s] at e
          first | (rw [if_pos (by assumption)] at e; exact e) | (rw [if_neg (by assumption)] at e; exact e)
  exact L_13 _ 0 rfl (by omega)
def flG (K : St) (P : Nat → Nat) (c s v n x up : Nat) : Nat := if c < K 0 2 ∧ s < 5 then (if v ≤ 9 ∧ (1 ≤ n ∧ n ≤ 6) ∧ x ≤ 10 then (if up = 0 then 10 ^ n / Nat.gcd (soF K P c s v x n (2 ^ n)) (10 ^ n) else soF K P c s v x n (2 ^ n) / Nat.gcd (soF K P c s v x n (2 ^ n)) (10 ^ n)) else 4294967294) else 4294967295
set_option maxHeartbeats 4000000 in
set_option maxRecDepth 100000 in
theorem c_X4_fails {B : Bk} {σ : St} {c s v n x up : Nat} (hc : c < 2 ^ 32) (hs : s < 2 ^ 32) (hv : v < 2 ^ 32) (hn : n < 2 ^ 32) (hxx : x < 2 ^ 32) (hup : up < 2) (g : GX σ) (h48 : OKP (pX σ 48)) : MC yX4_fails cX4_fails 10 (some .int) 5 B [.ref (B.1 17), .int (nI c), .int (nI s), .int (nI v), .int (nI n), .int (nI x), .int (nI up)] σ (rI (flG (KX σ (σ 17 2)) (pX σ 45) c s v n x up) (TQ σ)) := by
  obtain ⟨hx, hp, hd⟩ := id g
  have hb := hx.1
  obtain ⟨b1, b2, b3, b4, b5, b6, b7, b8⟩ := kd3' hb
  obtain ⟨o0, o1, o2, o3, o4, o5⟩ := id hx.2.1.1
  have n7 : σ (σ 17 2) 7 ≤ 4 := o0
  have n8 : σ (σ 17 2) 8 ≤ 6 := o1
  have n9 : σ (σ 17 2) 9 ≤ 5 := o2
  have hc5 : ∀ i, i < 5 → σ (45 + 1) i < 12 := fun i h => by have := hp.1 i h; rw [pX_c h] at this; exact this
  have hm5 : σ 45 2 < 32 := hp.2.1
  have hd3 : σ 45 3 ≤ 2 ^ 20 := hd
  have hgc : ∀ i, i < σ (σ 17 2) 8 → σ (σ 17 2 + 2) i < 12 := fun i h => (o4 i h).1
  have e02 : KX σ (σ 17 2) 0 2 = σ (σ 17 2) 9 := rfl
  have e01 : KX σ (σ 17 2) 0 1 = σ (σ 17 2) 8 := rfl
  have o : OKK (KX σ (σ 17 2)) := hx.2.1.1
  have s17 : ∀ {T : Nat → Nat}, stX σ 48 T 17 = σ 17 := fun {T} => stX_o (by decide) (by decide) (by decide)
  refine MC_int RX4 [some (.ref (B.1 17)), some (.int (nI c)), some (.int (nI s)), some (.int (nI v)), some (.int (nI n)), some (.int (nI x)), some (.int (nI up)), none, none, none] 3 (by decide +kernel) rfl rfl (Nat.le_of_ble_eq_true rfl) (fun E Q hret => ?_)
  refine V_aload_n (pc := 0) dX4_fails_0 rfl ?_
  refine V_iload_n (pc := 1) dX4_fails_1 rfl ?_
  refine V_callV_I (pc := 2) ff_X4_isChild ml_X4_115 (by first | rfl | assumption) rfl rfl (c_X4_isChild (by assumption) (by first | omega | assumption | exact and1_lt _ | exact nb_p) (by omega)) dX4_fails_2 rfl rfl (by decide) (by decide) (Nat.le_of_ble_eq_true rfl) ?_
  refine V_ifb_eq (pc := 5) 15 dX4_fails_5 (by decide) (fun h_5 => ?_) (fun h_5 => ?_)
  · skip
    refine V_iconst (pc := 15) 4294967295 dX4_fails_15 (by decide) ?_
    exact hret _ _ _ _ dX4_fails_16 (rI_mk (by unfold flG; (repeat' split) <;> first | (exfalso; omega) | rfl) (TQ.rf h48))
  · skip
    refine V_iload_n (pc := 8) dX4_fails_8 rfl ?_
    refine V_callS_I (pc := 9) ff_X4_isSubject ml_X4_134 (c_X4_isSubject (by first | omega | assumption | exact and1_lt _ | exact nb_p)) dX4_fails_9 rfl rfl (by decide) (by decide) (Nat.le_of_ble_eq_true rfl) ?_
    refine V_ifb_ne (pc := 12) 17 dX4_fails_12 (by decide) (fun h_12 => ?_) (fun h_12 => ?_)
    · skip
      refine V_iload_n (pc := 17) dX4_fails_17 rfl ?_
      refine V_if_lt (pc := 18) 52 dX4_fails_18 (by decide) (by first | omega | assumption | exact and1_lt _ | exact nb_p) (fun h_18 => ?_) (fun h_18 => ?_)
      · skip
        refine V_bipush (pc := 52) 4294967294 dX4_fails_52 (by decide) ?_
        exact hret _ _ _ _ dX4_fails_54 (rI_mk (by unfold flG; (repeat' split) <;> first | (exfalso; omega) | rfl) (TQ.rf h48))
      · skip
        refine V_iload_n (pc := 21) dX4_fails_21 rfl ?_
        refine V_bipush (pc := 22) 9 dX4_fails_22 (by decide) ?_
        refine V_icmp_gt (pc := 24) 52 dX4_fails_24 (by decide) (by first | omega | assumption | exact and1_lt _ | exact nb_p) (by first | omega | assumption | exact and1_lt _ | exact nb_p) (fun h_24 => ?_) (fun h_24 => ?_)
        · skip
          refine V_bipush (pc := 52) 4294967294 dX4_fails_52 (by decide) ?_
          exact hret _ _ _ _ dX4_fails_54 (rI_mk (by unfold flG; (repeat' split) <;> first | (exfalso; omega) | rfl) (TQ.rf h48))
        · skip
          refine V_iload (pc := 27) dX4_fails_27 rfl ?_
          refine V_iconst (pc := 29) 1 dX4_fails_29 (by decide) ?_
          refine V_icmpZ_lt (pc := 30) 52 dX4_fails_30 (by decide) hn (by decide) (fun h_30 => ?_) (fun h_30 => ?_)
          · skip
            refine V_bipush (pc := 52) 4294967294 dX4_fails_52 (by decide) ?_
            exact hret _ _ _ _ dX4_fails_54 (rI_mk (by unfold flG; (repeat' split) <;> first | (exfalso; omega) | rfl) (TQ.rf h48))
          · skip
            refine V_iload (pc := 33) dX4_fails_33 rfl ?_
            refine V_bipush (pc := 35) 6 dX4_fails_35 (by decide) ?_
            refine V_icmp_gt (pc := 37) 52 dX4_fails_37 (by decide) (by first | omega | assumption | exact and1_lt _ | exact nb_p) (by first | omega | assumption | exact and1_lt _ | exact nb_p) (fun h_37 => ?_) (fun h_37 => ?_)
            · skip
              refine V_bipush (pc := 52) 4294967294 dX4_fails_52 (by decide) ?_
              exact hret _ _ _ _ dX4_fails_54 (rI_mk (by unfold flG; (repeat' split) <;> first | (exfalso; omega) | rfl) (TQ.rf h48))
            · skip
              refine V_iload (pc := 40) dX4_fails_40 rfl ?_
              refine V_if_lt (pc := 42) 52 dX4_fails_42 (by decide) (by first | omega | assumption | exact and1_lt _ | exact nb_p) (fun h_42 => ?_) (fun h_42 => ?_)
              · skip
                refine V_bipush (pc := 52) 4294967294 dX4_fails_52 (by decide) ?_
                exact hret _ _ _ _ dX4_fails_54 (rI_mk (by unfold flG; (repeat' split) <;> first | (exfalso; omega) | rfl) (TQ.rf h48))
              · skip
                refine V_iload (pc := 45) dX4_fails_45 rfl ?_
                refine V_bipush (pc := 47) 10 dX4_fails_47 (by decide) ?_
                refine V_icmp_le (pc := 49) 55 dX4_fails_49 (by decide) (by first | omega | assumption | exact and1_lt _ | exact nb_p) (by first | omega | assumption | exact and1_lt _ | exact nb_p) (fun h_49 => ?_) (fun h_49 => ?_)
                · skip
                  refine V_iconst (pc := 55) 0 dX4_fails_55 (by decide) ?_
                  refine V_istore (pc := 56) dX4_fails_56 (by decide) rfl ?_
                  refine V_iconst (pc := 58) 0 dX4_fails_58 (by decide) ?_
                  refine V_istore (pc := 59) dX4_fails_59 (by decide) rfl ?_
                  have L_61 : ∀ (m : Nat) (i so : Nat) (T : Nat → Nat) (y : Option Value), 2 ^ n - i = m → i ≤ 2 ^ n → so = soF (KX σ (σ 17 2)) (pX σ 45) c s v x n i → OKP T → Z32 T → okS [some (.int 0), y] 1 = true → V E B RX4 cX4_fails 10 5 Q 61 [some (.ref (B.1 17)), some (.int (nI c)), some (.int (nI s)), some (.int (nI v)), some (.int (nI n)), some (.int (nI x)), some (.int (nI up)), some (.int (nI so)), some (.int (nI i)), y] [] (stX σ 48 T) := by
                    intro m
                    induction m using Nat.strongRecOn with
                    | _ m ih =>
                      intro i so T y hm hi hso hT hzT hy
                      have h64 : 2 ^ n ≤ 2 ^ 6 := Nat.pow_le_pow_right (by decide) (by omega)
                      have hal := alF_mono x n hi
                      have hte : 10 ^ n ≤ 10 ^ 6 := Nat.pow_le_pow_right (by decide) (by omega)
                      have hte0 : 0 < 10 ^ n := Nat.pow_pos (by decide)
                      rw [al_10 x (by omega) n (by omega)] at hal
                      have hsl := soF_le (KX σ (σ 17 2)) (pX σ 45) c s v x n i
                      rw [← hso] at hsl
                      refine V_iload (pc := 61) dX4_fails_61 rfl ?_
                      refine V_iconst (pc := 63) 1 dX4_fails_63 (by decide) ?_
                      refine V_iload (pc := 64) dX4_fails_64 rfl ?_
                      refine V_ishl (pc := 66) dX4_fails_66 (by first | omega | assumption | exact and1_lt _ | exact nb_p) ?_
                      rw [Nat.one_mul]
                      refine V_icmp_ge (pc := 67) 124 dX4_fails_67 (by decide) (by first | omega | assumption | exact and1_lt _ | exact nb_p) (by first | omega | assumption | exact and1_lt _ | exact nb_p) (fun h_67 => ?_) (fun h_67 => ?_)
                      · skip
                        have hie : i = 2 ^ n := by omega
                        subst hie
                        refine V_iload (pc := 124) dX4_fails_124 rfl ?_
                        refine V_bipush (pc := 126) 10 dX4_fails_126 (by decide) ?_
                        refine V_iload (pc := 128) dX4_fails_128 rfl ?_
                        refine V_callS_J (pc := 130) ff_X4_power ml_X4_181 (c_X4_power (v := 10) (by decide) (by omega)) dX4_fails_130 rfl rfl (by decide) (by decide) (Nat.le_of_ble_eq_true rfl) ?_
                        refine V_l2i (pc := 133) dX4_fails_133 (lN_i _) ?_
                        refine V_iload (pc := 134) dX4_fails_134 rfl ?_
                        refine V_callS (pc := 136) ff_X4_inLeastTerms ml_X4_209 (c_X4_inLeastTerms (n := so) (Or.inr ⟨nI_pos (by omega), rfl⟩) (by omega) hte0 (by omega) hup) dX4_fails_136 rfl rfl (by decide) (by decide) (Nat.le_of_ble_eq_true rfl) (fun v u hu => ?_)
                        obtain ⟨rfl, rfl⟩ := hu
                        simp only [Option.toList, List.cons_append, List.nil_append]
                        exact hret _ _ _ _ dX4_fails_139 (by refine ⟨?_, T, hT, hzT, rfl⟩; have hgp : 0 < Nat.gcd so (10 ^ n) := Nat.gcd_pos_of_pos_right _ hte0; have hgl : Nat.gcd so (10 ^ n) ≤ 10 ^ n := Nat.le_of_dvd hte0 (Nat.gcd_dvd_right _ _); unfold flG; rw [if_pos (show c < KX σ (σ 17 2) 0 2 ∧ s < 5 from And.intro (by omega) (by omega)), if_pos (show v ≤ 9 ∧ (1 ≤ n ∧ n ≤ 6) ∧ x ≤ 10 by omega), ← hso]; by_cases hu0 : up = 0; rw [if_pos hu0, if_pos hu0]; rw [if_neg hu0, if_neg hu0, pk_div (by omega) hgp (by omega)])
                      · skip
                        refine V_iload (pc := 70) dX4_fails_70 rfl ?_
                        refine V_iload (pc := 72) dX4_fails_72 rfl ?_
                        refine V_iload (pc := 74) dX4_fails_74 rfl ?_
                        refine V_callS_I (pc := 76) ff_X4_chanceOf ml_X4_221 (c_X4_chanceOf (by omega) (by omega) (by omega)) dX4_fails_76 rfl rfl (by decide) (by decide) (Nat.le_of_ble_eq_true rfl) ?_
                        rw [ch_fl x (by omega) n (by omega) i (by omega)]
                        have hal2 : alF x n i + flW x n i ≤ 10 ^ n := by
                          have q := alF_mono x n (show i + 1 ≤ 2 ^ n by omega)
                          rw [al_10 x (by omega) n (by omega)] at q
                          exact q
                        refine V_istore (pc := 79) dX4_fails_79 (by decide) rfl ?_
                        refine V_iload (pc := 81) dX4_fails_81 rfl ?_
                        refine V_if_le (pc := 83) 118 dX4_fails_83 (by decide) (by omega) (fun h_83 => ?_) (fun h_83 => ?_)
                        · skip
                          refine V_iinc (pc := 118) 1 dX4_fails_118 (by decide) rfl (by decide) rfl ?_
                          refine V_goto (pc := 121) 61 dX4_fails_121 (by decide) ?_
                          first | exact ih _ (by omega) (i + 1) _ _ _ rfl (by omega) (by rw [soF, hso, hv1]; first | (rw [if_pos (by omega)]; done) | rw [if_neg (by omega)]) (OKP_flT o hp i n) (Z_flT o (Z_pX σ 45) i n) rfl | exact ih _ (by omega) (i + 1) _ _ _ rfl (by omega) (by rw [soF, hso, show flW x n i = 0 by omega]; split <;> rfl) hT hzT rfl
                        · skip
                          refine V_aload_n (pc := 86) dX4_fails_86 rfl ?_
                          refine V_iload (pc := 87) dX4_fails_87 rfl ?_
                          refine V_iload (pc := 89) dX4_fails_89 rfl ?_
                          refine V_callV_V (pc := 91) ff_X4_tryFailingDays ml_X4_225 (by first | rfl | assumption) rfl rfl (c_X4_tryFailingDays g (by omega) (by omega)) dX4_fails_91 rfl rfl (by decide) (by decide) (Nat.le_of_ble_eq_true rfl) ?_
                          refine V_iload (pc := 94) dX4_fails_94 rfl ?_
                          refine V_aload_n (pc := 96) dX4_fails_96 rfl ?_
                          refine G_X4_trial (pc := 97) (by first | rfl | assumption) fl_X4_30 dX4_fails_97 ?_
                          refine V_iload_n (pc := 100) dX4_fails_100 rfl ?_
                          refine V_iload_n (pc := 101) dX4_fails_101 rfl ?_
                          refine V_callV_I (pc := 102) ff_X3_known ml_X4_137 (by first | rfl | assumption) rfl rfl (c_X3_known (k := 48) rfl (by omega) (by omega)) dX4_fails_102 rfl rfl (by decide) (by decide) (Nat.le_of_ble_eq_true rfl) ?_
                          rw [stX_n _ _ _ (by omega)]
                          have hv2 := (OKP_flT o hp i n).2.2 (c * 5 + s) (by omega)
                          have hv1 : 6 + 5 * c + s = 6 + (c * 5 + s) := by omega
                          refine V_iload_n (pc := 105) dX4_fails_105 rfl ?_
                          refine V_icmp_lt (pc := 106) 114 dX4_fails_106 (by decide) (by first | omega | assumption | exact and1_lt _ | exact nb_p) (by first | omega | assumption | exact and1_lt _ | exact nb_p) (fun h_106 => ?_) (fun h_106 => ?_)
                          · skip
                            refine V_iconst (pc := 114) 0 dX4_fails_114 (by decide) ?_
                            refine V_iadd (pc := 115) dX4_fails_115 ?_
                            refine V_istore (pc := 116) dX4_fails_116 (by decide) rfl ?_
                            refine V_iinc (pc := 118) 1 dX4_fails_118 (by decide) rfl (by decide) rfl ?_
                            refine V_goto (pc := 121) 61 dX4_fails_121 (by decide) ?_
                            first | exact ih _ (by omega) (i + 1) _ _ _ rfl (by omega) (by rw [soF, hso, hv1]; first | (rw [if_pos (by omega)]; done) | rw [if_neg (by omega)]) (OKP_flT o hp i n) (Z_flT o (Z_pX σ 45) i n) rfl | exact ih _ (by omega) (i + 1) _ _ _ rfl (by omega) (by rw [soF, hso, show flW x n i = 0 by omega]; split <;> rfl) hT hzT rfl
                          · skip
                            refine V_iload (pc := 109) dX4_fails_109 rfl ?_
                            refine V_goto (pc := 111) 115 dX4_fails_111 (by decide) ?_
                            refine V_iadd (pc := 115) dX4_fails_115 ?_
                            refine V_istore (pc := 116) dX4_fails_116 (by decide) rfl ?_
                            refine V_iinc (pc := 118) 1 dX4_fails_118 (by decide) rfl (by decide) rfl ?_
                            refine V_goto (pc := 121) 61 dX4_fails_121 (by decide) ?_
                            first | exact ih _ (by omega) (i + 1) _ _ _ rfl (by omega) (by rw [soF, hso, hv1]; first | (rw [if_pos (by omega)]; done) | rw [if_neg (by omega)]) (OKP_flT o hp i n) (Z_flT o (Z_pX σ 45) i n) rfl | exact ih _ (by omega) (i + 1) _ _ _ rfl (by omega) (by rw [soF, hso, show flW x n i = 0 by omega]; split <;> rfl) hT hzT rfl
                  have e := L_61 _ 0 _ (pX σ 48) none rfl (Nat.zero_le _) rfl h48 (Z_pX σ 48) rfl
                  rw [stX_self] at e
                  exact e
                · skip
                  refine V_bipush (pc := 52) 4294967294 dX4_fails_52 (by decide) ?_
                  exact hret _ _ _ _ dX4_fails_54 (rI_mk (by unfold flG; (repeat' split) <;> first | (exfalso; omega) | rfl) (TQ.rf h48))
    · skip
      refine V_iconst (pc := 15) 4294967295 dX4_fails_15 (by decide) ?_
      exact hret _ _ _ _ dX4_fails_16 (rI_mk (by unfold flG; (repeat' split) <;> first | (exfalso; omega) | rfl) (TQ.rf h48))
theorem Z_gnT {K : St} (o : OKK K) {T : Nat → Nat} (h : Z32 T) (v : Nat) : Z32 (gnT K T v) := by
  have o2 := o.2.2.1
  unfold gnT
  split
  · exact Z_itr o h 63 1
  · split
    · split
      · exact Z_unl h (by omega) (by omega)
      · exact h
    · split
      · exact Z_fup h (by omega)
      · exact h
theorem Z_geT {K : St} (o : OKK K) {P : Nat → Nat} (h : Z32 P) (s : Nat) : ∀ k, Z32 (geT K s P k)
  | 0 => h
  | k + 1 => Z_gnT o (Z_geT o h s k) _
set_option maxHeartbeats 4000000 in
set_option maxRecDepth 100000 in
theorem c_X4_tryChance {B : Bk} {σ : St} {v : Nat} {T : Nat → Nat} (g : GX σ) (hv : v < 32) (hT : OKP T) (hz : Z32 T) (hd2 : T 31 + 1 < 2 ^ 31) : MC yX4_tryChance cX4_tryChance 2 none 4 B [.ref (B.1 17), .int (nI v)] (stX σ 48 T) (dV (stX σ 48 (gnT (KX σ (σ 17 2)) T v))) := by
  obtain ⟨hx, hp, hd⟩ := id g
  have hb := hx.1
  obtain ⟨b1, b2, b3, b4, b5, b6, b7, b8⟩ := kd3' hb
  obtain ⟨o0, o1, o2, o3, o4, o5⟩ := id hx.2.1.1
  have n7 : σ (σ 17 2) 7 ≤ 4 := o0
  have n8 : σ (σ 17 2) 8 ≤ 6 := o1
  have n9 : σ (σ 17 2) 9 ≤ 5 := o2
  have hc5 : ∀ i, i < 5 → σ (45 + 1) i < 12 := fun i h => by have := hp.1 i h; rw [pX_c h] at this; exact this
  have hm5 : σ 45 2 < 32 := hp.2.1
  have hd3 : σ 45 3 ≤ 2 ^ 20 := hd
  have hgc : ∀ i, i < σ (σ 17 2) 8 → σ (σ 17 2 + 2) i < 12 := fun i h => (o4 i h).1
  have e02 : KX σ (σ 17 2) 0 2 = σ (σ 17 2) 9 := rfl
  have e01 : KX σ (σ 17 2) 0 1 = σ (σ 17 2) 8 := rfl
  have o : OKK (KX σ (σ 17 2)) := hx.2.1.1
  have s17 : ∀ {T : Nat → Nat}, stX σ 48 T 17 = σ 17 := fun {T} => stX_o (by decide) (by decide) (by decide)
  refine MC_void RX4 [some (.ref (B.1 17)), some (.int (nI v))] 0 (by decide +kernel) rfl rfl (Nat.le_of_ble_eq_true rfl) (fun E Q hret => ?_)
  refine V_iload_n (pc := 0) dX4_tryChance_0 rfl ?_
  refine V_bipush (pc := 1) 17 dX4_tryChance_1 (by decide) ?_
  refine V_icmp_lt (pc := 3) 23 dX4_tryChance_3 (by decide) (by first | omega | assumption | exact and1_lt _ | exact nb_p) (by first | omega | assumption | exact and1_lt _ | exact nb_p) (fun h_3 => ?_) (fun h_3 => ?_)
  · skip
    refine V_iload_n (pc := 23) dX4_tryChance_23 rfl ?_
    refine V_bipush (pc := 24) 12 dX4_tryChance_24 (by decide) ?_
    refine V_icmp_lt (pc := 26) 54 dX4_tryChance_26 (by decide) (by first | omega | assumption | exact and1_lt _ | exact nb_p) (by first | omega | assumption | exact and1_lt _ | exact nb_p) (fun h_26 => ?_) (fun h_26 => ?_)
    · skip
      refine V_iload_n (pc := 54) dX4_tryChance_54 rfl ?_
      refine V_bipush (pc := 55) 12 dX4_tryChance_55 (by decide) ?_
      refine V_icmp_ge (pc := 57) 80 dX4_tryChance_57 (by decide) (by first | omega | assumption | exact and1_lt _ | exact nb_p) (by first | omega | assumption | exact and1_lt _ | exact nb_p) (fun h_57 => ?_) (fun h_57 => ?_)
      · skip
        exact hret _ _ _ dX4_tryChance_80 (dV_mk (by (first | (rw [stX_pc _ _ _ _ (by decide)]) | skip); unfold gnT; first | (rw [if_pos (show 16 < v by omega)]; rfl) | (rw [if_neg (show ¬ 16 < v by omega), if_pos (show 11 < v by omega)]; first | (rw [if_pos (show v - 12 < KX σ (σ 17 2) 0 2 by omega)]; done) | (rw [if_neg (show ¬ v - 12 < KX σ (σ 17 2) 0 2 by omega)]; done)) | (rw [if_neg (show ¬ 16 < v by omega), if_neg (show ¬ 11 < v by omega)]; first | (rw [if_pos (show 0 < KX σ (σ 17 2) 0 2 by omega)]; done) | (rw [if_neg (show ¬ 0 < KX σ (σ 17 2) 0 2 by omega)]; done))))
      · skip
        refine V_aload_n (pc := 60) dX4_tryChance_60 rfl ?_
        refine V_iconst (pc := 61) 0 dX4_tryChance_61 (by decide) ?_
        refine V_callV_I (pc := 62) ff_X4_isChild ml_X4_115 (by first | rfl | assumption) rfl rfl (c_X4_isChild (by rw [s17]; exact hb) (by omega) (by rw [s17, stX_o (by omega) (by omega) (by omega)]; omega)) dX4_tryChance_62 rfl rfl (by decide) (by decide) (Nat.le_of_ble_eq_true rfl) ?_
        rw [s17, stX_o (by omega) (by omega) (by omega)]
        refine V_ifb_eq (pc := 65) 80 dX4_tryChance_65 (by decide) (fun h_65 => ?_) (fun h_65 => ?_)
        · skip
          exact hret _ _ _ dX4_tryChance_80 (dV_mk (by (first | (rw [stX_pc _ _ _ _ (by decide)]) | skip); unfold gnT; first | (rw [if_pos (show 16 < v by omega)]; rfl) | (rw [if_neg (show ¬ 16 < v by omega), if_pos (show 11 < v by omega)]; first | (rw [if_pos (show v - 12 < KX σ (σ 17 2) 0 2 by omega)]; done) | (rw [if_neg (show ¬ v - 12 < KX σ (σ 17 2) 0 2 by omega)]; done)) | (rw [if_neg (show ¬ 16 < v by omega), if_neg (show ¬ 11 < v by omega)]; first | (rw [if_pos (show 0 < KX σ (σ 17 2) 0 2 by omega)]; done) | (rw [if_neg (show ¬ 0 < KX σ (σ 17 2) 0 2 by omega)]; done))))
        · skip
          refine V_aload_n (pc := 68) dX4_tryChance_68 rfl ?_
          refine G_X4_trial (pc := 69) (by first | rfl | assumption) fl_X4_30 dX4_tryChance_69 ?_
          refine G_X3_cells (pc := 72) (by first | rfl | assumption) fl_X4_118 dX4_tryChance_72 ?_
          refine V_iconst (pc := 75) 0 dX4_tryChance_75 (by decide) ?_
          refine V_iload_n (pc := 76) dX4_tryChance_76 rfl ?_
          refine V_callS_V (pc := 77) ff_X4_lay ml_X4_67 (c_X4_layI (n := 5) rfl (by decide)) dX4_tryChance_77 rfl rfl (by decide) (by decide) (Nat.le_of_ble_eq_true rfl) ?_
          exact hret _ _ _ dX4_tryChance_80 (dV_mk (by (first | (rw [stX_pc _ _ _ _ (by decide)]) | skip); unfold gnT; first | (rw [if_pos (show 16 < v by omega)]; rfl) | (rw [if_neg (show ¬ 16 < v by omega), if_pos (show 11 < v by omega)]; first | (rw [if_pos (show v - 12 < KX σ (σ 17 2) 0 2 by omega)]; done) | (rw [if_neg (show ¬ v - 12 < KX σ (σ 17 2) 0 2 by omega)]; done)) | (rw [if_neg (show ¬ 16 < v by omega), if_neg (show ¬ 11 < v by omega)]; first | (rw [if_pos (show 0 < KX σ (σ 17 2) 0 2 by omega)]; done) | (rw [if_neg (show ¬ 0 < KX σ (σ 17 2) 0 2 by omega)]; done))))
    · skip
      refine V_aload_n (pc := 29) dX4_tryChance_29 rfl ?_
      refine V_iload_n (pc := 30) dX4_tryChance_30 rfl ?_
      refine V_bipush (pc := 31) 12 dX4_tryChance_31 (by decide) ?_
      refine V_isub (pc := 33) dX4_tryChance_33 (by omega) ?_
      refine V_callV_I (pc := 34) ff_X4_isChild ml_X4_115 (by first | rfl | assumption) rfl rfl (c_X4_isChild (by rw [s17]; exact hb) (by omega) (by rw [s17, stX_o (by omega) (by omega) (by omega)]; omega)) dX4_tryChance_34 rfl rfl (by decide) (by decide) (Nat.le_of_ble_eq_true rfl) ?_
      rw [s17, stX_o (by omega) (by omega) (by omega)]
      refine V_ifb_eq (pc := 37) 54 dX4_tryChance_37 (by decide) (fun h_37 => ?_) (fun h_37 => ?_)
      · skip
        refine V_iload_n (pc := 54) dX4_tryChance_54 rfl ?_
        refine V_bipush (pc := 55) 12 dX4_tryChance_55 (by decide) ?_
        refine V_icmp_ge (pc := 57) 80 dX4_tryChance_57 (by decide) (by first | omega | assumption | exact and1_lt _ | exact nb_p) (by first | omega | assumption | exact and1_lt _ | exact nb_p) (fun h_57 => ?_) (fun h_57 => ?_)
        · skip
          exact hret _ _ _ dX4_tryChance_80 (dV_mk (by (first | (rw [stX_pc _ _ _ _ (by decide)]) | skip); unfold gnT; first | (rw [if_pos (show 16 < v by omega)]; rfl) | (rw [if_neg (show ¬ 16 < v by omega), if_pos (show 11 < v by omega)]; first | (rw [if_pos (show v - 12 < KX σ (σ 17 2) 0 2 by omega)]; done) | (rw [if_neg (show ¬ v - 12 < KX σ (σ 17 2) 0 2 by omega)]; done)) | (rw [if_neg (show ¬ 16 < v by omega), if_neg (show ¬ 11 < v by omega)]; first | (rw [if_pos (show 0 < KX σ (σ 17 2) 0 2 by omega)]; done) | (rw [if_neg (show ¬ 0 < KX σ (σ 17 2) 0 2 by omega)]; done))))
        · skip
          refine V_aload_n (pc := 60) dX4_tryChance_60 rfl ?_
          refine V_iconst (pc := 61) 0 dX4_tryChance_61 (by decide) ?_
          refine V_callV_I (pc := 62) ff_X4_isChild ml_X4_115 (by first | rfl | assumption) rfl rfl (c_X4_isChild (by rw [s17]; exact hb) (by omega) (by rw [s17, stX_o (by omega) (by omega) (by omega)]; omega)) dX4_tryChance_62 rfl rfl (by decide) (by decide) (Nat.le_of_ble_eq_true rfl) ?_
          rw [s17, stX_o (by omega) (by omega) (by omega)]
          refine V_ifb_eq (pc := 65) 80 dX4_tryChance_65 (by decide) (fun h_65 => ?_) (fun h_65 => ?_)
          · skip
            exact hret _ _ _ dX4_tryChance_80 (dV_mk (by (first | (rw [stX_pc _ _ _ _ (by decide)]) | skip); unfold gnT; first | (rw [if_pos (show 16 < v by omega)]; rfl) | (rw [if_neg (show ¬ 16 < v by omega), if_pos (show 11 < v by omega)]; first | (rw [if_pos (show v - 12 < KX σ (σ 17 2) 0 2 by omega)]; done) | (rw [if_neg (show ¬ v - 12 < KX σ (σ 17 2) 0 2 by omega)]; done)) | (rw [if_neg (show ¬ 16 < v by omega), if_neg (show ¬ 11 < v by omega)]; first | (rw [if_pos (show 0 < KX σ (σ 17 2) 0 2 by omega)]; done) | (rw [if_neg (show ¬ 0 < KX σ (σ 17 2) 0 2 by omega)]; done))))
          · skip
            refine V_aload_n (pc := 68) dX4_tryChance_68 rfl ?_
            refine G_X4_trial (pc := 69) (by first | rfl | assumption) fl_X4_30 dX4_tryChance_69 ?_
            refine G_X3_cells (pc := 72) (by first | rfl | assumption) fl_X4_118 dX4_tryChance_72 ?_
            refine V_iconst (pc := 75) 0 dX4_tryChance_75 (by decide) ?_
            refine V_iload_n (pc := 76) dX4_tryChance_76 rfl ?_
            refine V_callS_V (pc := 77) ff_X4_lay ml_X4_67 (c_X4_layI (n := 5) rfl (by decide)) dX4_tryChance_77 rfl rfl (by decide) (by decide) (Nat.le_of_ble_eq_true rfl) ?_
            exact hret _ _ _ dX4_tryChance_80 (dV_mk (by (first | (rw [stX_pc _ _ _ _ (by decide)]) | skip); unfold gnT; first | (rw [if_pos (show 16 < v by omega)]; rfl) | (rw [if_neg (show ¬ 16 < v by omega), if_pos (show 11 < v by omega)]; first | (rw [if_pos (show v - 12 < KX σ (σ 17 2) 0 2 by omega)]; done) | (rw [if_neg (show ¬ v - 12 < KX σ (σ 17 2) 0 2 by omega)]; done)) | (rw [if_neg (show ¬ 16 < v by omega), if_neg (show ¬ 11 < v by omega)]; first | (rw [if_pos (show 0 < KX σ (σ 17 2) 0 2 by omega)]; done) | (rw [if_neg (show ¬ 0 < KX σ (σ 17 2) 0 2 by omega)]; done))))
      · skip
        refine V_aload_n (pc := 40) dX4_tryChance_40 rfl ?_
        refine G_X4_trial (pc := 41) (by first | rfl | assumption) fl_X4_30 dX4_tryChance_41 ?_
        refine V_iload_n (pc := 44) dX4_tryChance_44 rfl ?_
        refine V_bipush (pc := 45) 12 dX4_tryChance_45 (by decide) ?_
        refine V_isub (pc := 47) dX4_tryChance_47 (by omega) ?_
        refine V_callV_V (pc := 48) ff_X3_unlearn ml_X4_158 (by first | rfl | assumption) rfl rfl (c_X3_unlearn (k := 48) rfl (by omega)) dX4_tryChance_48 rfl rfl (by decide) (by decide) (Nat.le_of_ble_eq_true rfl) ?_
        rw [pX_stX _ _ hz, stX_stX]
        refine V_goto (pc := 51) 80 dX4_tryChance_51 (by decide) ?_
        exact hret _ _ _ dX4_tryChance_80 (dV_mk (by (first | (rw [stX_pc _ _ _ _ (by decide)]) | skip); unfold gnT; first | (rw [if_pos (show 16 < v by omega)]; rfl) | (rw [if_neg (show ¬ 16 < v by omega), if_pos (show 11 < v by omega)]; first | (rw [if_pos (show v - 12 < KX σ (σ 17 2) 0 2 by omega)]; done) | (rw [if_neg (show ¬ v - 12 < KX σ (σ 17 2) 0 2 by omega)]; done)) | (rw [if_neg (show ¬ 16 < v by omega), if_neg (show ¬ 11 < v by omega)]; first | (rw [if_pos (show 0 < KX σ (σ 17 2) 0 2 by omega)]; done) | (rw [if_neg (show ¬ 0 < KX σ (σ 17 2) 0 2 by omega)]; done))))
  · skip
    refine V_aload_n (pc := 6) dX4_tryChance_6 rfl ?_
    refine G_X4_trial (pc := 7) (by first | rfl | assumption) fl_X4_30 dX4_tryChance_7 ?_
    refine V_aload_n (pc := 10) dX4_tryChance_10 rfl ?_
    refine G_X4_shore (pc := 11) (by first | rfl | assumption) fl_X4_16 dX4_tryChance_11 ?_
    refine V_iconst (pc := 14) 1 dX4_tryChance_14 (by decide) ?_
    refine V_bipush (pc := 15) 63 dX4_tryChance_15 (by decide) ?_
    rw [s17]
    refine V_callV_V (pc := 17) ff_X3_pass ml_X4_144 (by first | rfl | assumption) rfl rfl (c_X3_pass2 (k := 48) (z := 1) (th := 63) rfl hx hz hT (by decide) (by decide) hd2) dX4_tryChance_17 rfl rfl (by decide) (by decide) (Nat.le_of_ble_eq_true rfl) ?_
    refine V_goto (pc := 20) 80 dX4_tryChance_20 (by decide) ?_
    exact hret _ _ _ dX4_tryChance_80 (dV_mk (by (first | (rw [stX_pc _ _ _ _ (by decide)]) | skip); unfold gnT; first | (rw [if_pos (show 16 < v by omega)]; rfl) | (rw [if_neg (show ¬ 16 < v by omega), if_pos (show 11 < v by omega)]; first | (rw [if_pos (show v - 12 < KX σ (σ 17 2) 0 2 by omega)]; done) | (rw [if_neg (show ¬ v - 12 < KX σ (σ 17 2) 0 2 by omega)]; done)) | (rw [if_neg (show ¬ 16 < v by omega), if_neg (show ¬ 11 < v by omega)]; first | (rw [if_pos (show 0 < KX σ (σ 17 2) 0 2 by omega)]; done) | (rw [if_neg (show ¬ 0 < KX σ (σ 17 2) 0 2 by omega)]; done))))
def ge5 (K : St) (s : Nat) (P : Nat → Nat) : Nat → Nat
  | 0 => 0
  | k + 1 => ge5 K s P k + wtS (geT K s P (k + 1)) 5
def geO (σ : St) (m : Nat) : Nat := if 1 ≤ m ∧ m ≤ 30 then sdF (σ 17 11) m else σ 17 11
def geG (K : St) (s : Nat) (P : Nat → Nat) (m : Nat) : Nat := if 1 ≤ m ∧ m ≤ 30 then ge5 K s P m else 4294967294
theorem sd_ok {σ : St} (g : GX σ) (x : Nat) : GX (pt σ 17 11 x) ∧ KX (pt σ 17 11 x) (pt σ 17 11 x 17 2) = KX σ (σ 17 2) ∧ pX (pt σ 17 11 x) 45 = pX σ 45 := by
  have b8 := (kd3' g.1.1).2.2.2.2.2.2.2
  have e17 : pt σ 17 11 x 17 2 = σ 17 2 := pt_ne (by decide)
  have eP : pX (pt σ 17 11 x) 45 = pX σ 45 := pX_same (pt_o (by decide)) (pt_o (by decide)) (pt_o (by decide))
  refine ⟨⟨?_, by rw [eP]; exact g.2.1, by rw [eP]; exact g.2.2⟩, ?_, eP⟩
  · rw [e17]
    exact OKX_same g.1 (fun k h1 h2 => pt_o (by omega))
  · rw [e17]
    exact KX_same (fun k h1 h2 => pt_o (by omega))
set_option maxHeartbeats 4000000 in
set_option maxRecDepth 100000 in
theorem c_X4_generations {B : Bk} {σ : St} {mm : Nat} (hm0 : mm < 2 ^ 32) (hsd : σ 17 11 < 2 ^ 64) (g : GX σ) (h48 : OKP (pX σ 48)) : MC yX4_generations cX4_generations 4 (some .int) 5 B [.ref (B.1 17), .int (nI mm)] σ (rI (geG (KX σ (σ 17 2)) (σ 17 11) (pX σ 45) mm) (fun u => TQ (pt σ 17 11 (geO σ mm)) u)) := by
  obtain ⟨hx, hp, hd⟩ := id g
  have hb := hx.1
  obtain ⟨b1, b2, b3, b4, b5, b6, b7, b8⟩ := kd3' hb
  obtain ⟨o0, o1, o2, o3, o4, o5⟩ := id hx.2.1.1
  have n7 : σ (σ 17 2) 7 ≤ 4 := o0
  have n8 : σ (σ 17 2) 8 ≤ 6 := o1
  have n9 : σ (σ 17 2) 9 ≤ 5 := o2
  have hc5 : ∀ i, i < 5 → σ (45 + 1) i < 12 := fun i h => by have := hp.1 i h; rw [pX_c h] at this; exact this
  have hm5 : σ 45 2 < 32 := hp.2.1
  have hd3 : σ 45 3 ≤ 2 ^ 20 := hd
  have hgc : ∀ i, i < σ (σ 17 2) 8 → σ (σ 17 2 + 2) i < 12 := fun i h => (o4 i h).1
  have e02 : KX σ (σ 17 2) 0 2 = σ (σ 17 2) 9 := rfl
  have e01 : KX σ (σ 17 2) 0 1 = σ (σ 17 2) 8 := rfl
  have o : OKK (KX σ (σ 17 2)) := hx.2.1.1
  have s17 : ∀ {T : Nat → Nat}, stX σ 48 T 17 = σ 17 := fun {T} => stX_o (by decide) (by decide) (by decide)
  refine MC_int RX4 [some (.ref (B.1 17)), some (.int (nI mm)), none, none] 2 (by decide +kernel) rfl rfl (Nat.le_of_ble_eq_true rfl) (fun E Q hret => ?_)
  refine V_iload_n (pc := 0) dX4_generations_0 rfl ?_
  refine V_iconst (pc := 1) 1 dX4_generations_1 (by decide) ?_
  refine V_icmpZ_lt (pc := 2) 11 dX4_generations_2 (by decide) hm0 (by decide) (fun h_2 => ?_) (fun h_2 => ?_)
  · skip
    refine V_bipush (pc := 11) 4294967294 dX4_generations_11 (by decide) ?_
    exact hret _ _ _ _ dX4_generations_13 (rI_mk (by unfold geG; rw [if_neg (by omega)]) (by unfold geO; rw [if_neg (by omega), pt_id rfl]; exact TQ.rf h48))
  · skip
    refine V_iload_n (pc := 5) dX4_generations_5 rfl ?_
    refine V_bipush (pc := 6) 30 dX4_generations_6 (by decide) ?_
    refine V_icmp_le (pc := 8) 14 dX4_generations_8 (by decide) (by first | omega | assumption | exact and1_lt _ | exact nb_p) (by first | omega | assumption | exact and1_lt _ | exact nb_p) (fun h_8 => ?_) (fun h_8 => ?_)
    · skip
      refine V_aload_n (pc := 14) dX4_generations_14 rfl ?_
      refine G_X4_trial (pc := 15) (by first | rfl | assumption) fl_X4_30 dX4_generations_15 ?_
      refine V_aload_n (pc := 18) dX4_generations_18 rfl ?_
      refine G_X4_now (pc := 19) (by first | rfl | assumption) fl_X4_26 dX4_generations_19 ?_
      refine V_callV_V (pc := 22) ff_X3_take ml_X4_170 (by first | rfl | assumption) rfl rfl (c_X3_take (k := 48) (j := 45) rfl rfl (by decide)) dX4_generations_22 rfl rfl (by decide) (by decide) (Nat.le_of_ble_eq_true rfl) ?_
      refine V_iconst (pc := 25) 0 dX4_generations_25 (by decide) ?_
      refine V_istore_n (pc := 26) dX4_generations_26 (by decide) rfl ?_
      refine V_iconst (pc := 27) 0 dX4_generations_27 (by decide) ?_
      refine V_istore_n (pc := 28) dX4_generations_28 (by decide) rfl ?_
      have L_29 : ∀ (m : Nat) (i : Nat), mm - i = m → i ≤ mm → V E B RX4 cX4_generations 4 5 Q 29 [some (.ref (B.1 17)), some (.int (nI mm)), some (.int (nI (ge5 (KX σ (σ 17 2)) (σ 17 11) (pX σ 45) i))), some (.int (nI i))] [] (stX (pt σ 17 11 (sdF (σ 17 11) i)) 48 (geT (KX σ (σ 17 2)) (σ 17 11) (pX σ 45) i)) := by
        intro m
        induction m using Nat.strongRecOn with
        | _ m ih =>
          intro i hm hi
          have hO := OKP_geT o hp (σ 17 11) i
          have hZ := Z_geT o (Z_pX σ 45) (σ 17 11) i
          have h31 := geT_31 o (pX σ 45) (σ 17 11) i
          have hs1 := sdF_lt hsd (i + 1)
          obtain ⟨d1, d2, d3⟩ := sd_ok g (sdF (σ 17 11) (i + 1))
          have hq : sdF (σ 17 11) (i + 1) / 2 ^ 33 < 2 ^ 31 := by omega
          have hv : vF (σ 17 11) i < 32 := Nat.mod_lt _ (by decide)
          refine V_iload_n (pc := 29) dX4_generations_29 rfl ?_
          refine V_iload_n (pc := 30) dX4_generations_30 rfl ?_
          refine V_icmp_ge (pc := 31) 81 dX4_generations_31 (by decide) (by first | omega | assumption | exact and1_lt _ | exact nb_p) (by first | omega | assumption | exact and1_lt _ | exact nb_p) (fun h_31 => ?_) (fun h_31 => ?_)
          · skip
            refine V_iload_n (pc := 81) dX4_generations_81 rfl ?_
            exact hret _ _ _ _ dX4_generations_82 (rI_mk (by unfold geG; rw [if_pos (by omega), show i = mm by omega]) ⟨_, hO, hZ, by unfold geO; rw [if_pos (by omega), show i = mm by omega]⟩)
          · skip
            refine V_aload_n (pc := 34) dX4_generations_34 rfl ?_
            refine V_aload_n (pc := 35) dX4_generations_35 rfl ?_
            refine G_X4_seedNow (pc := 36) (by first | rfl | assumption) fl_X4_228 dX4_generations_36 ?_
            rw [stX_o (by decide) (by decide) (by decide), pt_at]
            refine V_ldc2N (pc := 39) (m := 6364136223846793005) kl_X4_232 rfl dX4_generations_39 ?_
            refine V_lmul (pc := 42) dX4_generations_42 ?_
            rw [lN_mul]
            refine V_ldc2N (pc := 43) (m := 1442695040888963407) kl_X4_234 rfl dX4_generations_43 ?_
            refine V_ladd (pc := 46) dX4_generations_46 ?_
            rw [lN_add, wb_mod (sdF (σ 17 11) i * 6364136223846793005 + 1442695040888963407)]
            refine P_X4_seedNow (pc := 47) (by first | rfl | assumption) fl_X4_228 dX4_generations_47 ?_
            rw [pt_stX (by decide) (by decide) (by decide), pt_pt, show (sdF (σ 17 11) i * 6364136223846793005 + 1442695040888963407) % 2 ^ 64 = sdF (σ 17 11) (i + 1) from rfl]
            refine V_aload_n (pc := 50) dX4_generations_50 rfl ?_
            refine V_aload_n (pc := 51) dX4_generations_51 rfl ?_
            refine G_X4_seedNow (pc := 52) (by first | rfl | assumption) fl_X4_228 dX4_generations_52 ?_
            rw [stX_o (by decide) (by decide) (by decide), pt_at]
            refine V_bipush (pc := 55) 33 dX4_generations_55 (by decide) ?_
            refine V_lushr (pc := 57) dX4_generations_57 (wb_shr (k := 33) hs1 (by decide)) ?_
            refine V_l2i (pc := 58) dX4_generations_58 (lN_i _) ?_
            refine V_bipush (pc := 59) 31 dX4_generations_59 (by decide) ?_
            refine V_iand (pc := 61) dX4_generations_61 ?_
            rw [show sdF (σ 17 11) (i + 1) / 2 ^ 33 &&& 31 = vF (σ 17 11) i from Nat.and_two_pow_sub_one_eq_mod _ 5]
            refine V_callV_V (pc := 62) ff_X4_tryChance ml_X4_236 (by first | rfl | assumption) rfl rfl (c_X4_tryChance d1 hv hO hZ (by omega)) dX4_generations_62 rfl rfl (by decide) (by decide) (Nat.le_of_ble_eq_true rfl) ?_
            rw [d2, show gnT (KX σ (σ 17 2)) (geT (KX σ (σ 17 2)) (σ 17 11) (pX σ 45) i) (vF (σ 17 11) i) = (geT (KX σ (σ 17 2)) (σ 17 11) (pX σ 45) (i + 1)) from rfl]
            refine V_iload_n (pc := 65) dX4_generations_65 rfl ?_
            refine V_aload_n (pc := 66) dX4_generations_66 rfl ?_
            refine G_X4_trial (pc := 67) (by first | rfl | assumption) fl_X4_30 dX4_generations_67 ?_
            refine V_callV_I (pc := 70) ff_X3_weights ml_X4_148 (by first | rfl | assumption) rfl rfl (c_X3_weights (k := 48) rfl) dX4_generations_70 rfl rfl (by decide) (by decide) (Nat.le_of_ble_eq_true rfl) ?_
            rw [pX_stX _ _ (Z_geT o (Z_pX σ 45) (σ 17 11) (i + 1))]
            refine V_iadd (pc := 73) dX4_generations_73 ?_
            refine V_istore_n (pc := 74) dX4_generations_74 (by decide) rfl ?_
            refine V_iinc (pc := 75) 1 dX4_generations_75 (by decide) rfl (by decide) rfl ?_
            refine V_goto (pc := 78) 29 dX4_generations_78 (by decide) ?_
            exact ih _ (by omega) (i + 1) rfl (by omega)
      have e := L_29 _ 0 rfl (by omega)
      rw [show sdF (σ 17 11) 0 = σ 17 11 from rfl, pt_id rfl] at e
      exact e
    · skip
      refine V_bipush (pc := 11) 4294967294 dX4_generations_11 (by decide) ?_
      exact hret _ _ _ _ dX4_generations_13 (rI_mk (by unfold geG; rw [if_neg (by omega)]) (by unfold geO; rw [if_neg (by omega), pt_id rfl]; exact TQ.rf h48))
