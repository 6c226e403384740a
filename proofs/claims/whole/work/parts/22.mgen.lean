/-! GENERATIONS of the model -/
def sdF (s : Nat) : Nat → Nat
  | 0 => s
  | k + 1 => (sdF s k * 6364136223846793005 + 1442695040888963407) % 2 ^ 64
def vF (s k : Nat) : Nat := sdF s (k + 1) / 2 ^ 33 % 32
def gnT (K : St) (T : Nat → Nat) (v : Nat) : Nat → Nat := if 16 < v then pd K 63 T else if 11 < v then (if v - 12 < K 0 2 then unl T (v - 12) 5 else T) else if 0 < K 0 2 then fup T 0 v else T
def geT (K : St) (s : Nat) (P : Nat → Nat) : Nat → Nat → Nat
  | 0 => P
  | k + 1 => gnT K (geT K s P k) (vF s k)
def geS (K : St) (s : Nat) (P : Nat → Nat) : Nat → Nat
  | 0 => 0
  | k + 1 => geS K s P k + wtS (geT K s P (k + 1)) (K 0 2)
theorem OKP_gnT {K : St} (o : OKK K) {T : Nat → Nat} (h : OKP T) (v : Nat) : OKP (gnT K T v) := by
  unfold gnT
  split
  · exact OKP_psn o h _ _
  · split
    · split
      · exact OKP_unl h _ _
      · exact h
    · split
      · exact OKP_fup h (by omega) (by omega) (by omega)
      · exact h
theorem gnT_31 {K : St} (o : OKK K) (T : Nat → Nat) (v : Nat) : gnT K T v 31 ≤ T 31 + 1 := by
  have o2 := o.2.2.1
  unfold gnT
  split
  · rw [pd, psn_31 o]; omega
  · split
    · split
      · rw [unl_o (by omega)]; omega
      · omega
    · split
      · rw [fup_o (by omega)]; omega
      · omega
theorem PEq_gnT {K : St} (o : OKK K) {T T' : Nat → Nat} (h : PEq (K 0 2) T T') (v : Nat) : PEq (K 0 2) (gnT K T v) (gnT K T' v) := by
  unfold gnT
  split
  · exact PEq_pd o h 63
  · split
    · split
      · exact PEq_unl h _ _
      · exact h
    · split
      · exact h.up rfl
      · exact h
theorem OKP_geT {K : St} (o : OKK K) {P : Nat → Nat} (h : OKP P) (s : Nat) : ∀ k, OKP (geT K s P k)
  | 0 => h
  | k + 1 => OKP_gnT o (OKP_geT o h s k) _
theorem geT_31 {K : St} (o : OKK K) (P : Nat → Nat) (s : Nat) : ∀ k, geT K s P k 31 ≤ P 31 + k
  | 0 => Nat.le_refl _
  | k + 1 => Nat.le_trans (gnT_31 o _ _) (by have := geT_31 o P s k; omega)
theorem PEq_geT {K : St} (o : OKK K) {P P' : Nat → Nat} (h : PEq (K 0 2) P P') (s : Nat) : ∀ k, PEq (K 0 2) (geT K s P k) (geT K s P' k)
  | 0 => h
  | k + 1 => PEq_gnT o (PEq_geT o h s k) _
theorem geS_cong {K : St} (o : OKK K) {P P' : Nat → Nat} (h : PEq (K 0 2) P P') (s : Nat) : ∀ k, geS K s P k = geS K s P' k
  | 0 => rfl
  | k + 1 => by rw [geS, geS, geS_cong o h s k, wtS_cong (PEq_geT o h s (k + 1)) _ o.2.2.1]
theorem KEq_seed (σ : St) (x : Nat) : KEq (pt σ 0 28 x) σ := ⟨pt_ne (by decide), pt_ne (by decide), pt_ne (by decide), fun k h1 h2 => pt_o (by omega)⟩
theorem sdF_lt {s : Nat} (h : s < 2 ^ 64) : ∀ k, sdF s k < 2 ^ 64
  | 0 => h
  | _ + 1 => Nat.mod_lt _ (by decide)
def geN (σ : St) (m : Nat) : Nat := if 1 ≤ m ∧ m ≤ 30 then sdF (σ 0 28) m else σ 0 28
def geM (σ : St) (m : Nat) : Nat := if 1 ≤ m ∧ m ≤ 30 then geS σ (σ 0 28) (pM σ 0) m else 4294967294
set_option maxHeartbeats 4000000 in
set_option maxRecDepth 100000 in
theorem c_X5_generations {B : Bk} {σ : St} {mm : Nat} (hm0 : mm < 2 ^ 32) (hsd : σ 0 28 < 2 ^ 64) (g : GM σ) : MC yX5_generations cX5_generations 5 (some .int) 4 B [.ref (B.1 0), .int (nI mm)] σ (rI (geM σ mm) (fun u => ∃ T, u = stM (pt σ 0 28 (geN σ mm)) 1 T)) := by
  obtain ⟨o, ht, hp, hd⟩ := g
  obtain ⟨o0, o1, o2, o3, o4, o5⟩ := id o
  have ht64 : σ 0 20 < 64 := by omega
  have hTP : PEq (σ 0 2) (cp32 (pM σ 0) (pM σ 1)) (pM σ 0) := cp_PEq _ o2 _ _
  have hTO : OKP (cp32 (pM σ 0) (pM σ 1)) := cp_OKP hp _
  have hT31 : (cp32 (pM σ 0) (pM σ 1)) 31 = pM σ 0 31 := cp_lt (by decide)
  refine MC_int RX5 [some (.ref (B.1 0)), some (.int (nI mm)), none, none, none] 3 (by decide +kernel) rfl rfl (Nat.le_of_ble_eq_true rfl) (fun E Q hret => ?_)
  refine V_iload_n (pc := 0) dX5_generations_0 rfl ?_
  refine V_i2l (pc := 1) dX5_generations_1 rfl ?_
  refine V_lconst (pc := 2) (v := lN 1) dX5_generations_2 rfl ?_
  refine V_ldc2N (pc := 3) (m := 30) kl_X5_241 rfl dX5_generations_3 ?_
  refine V_callS_I (pc := 6) ff_X5_in ml_X5_65 (c_X5_inI (by first | omega | assumption | exact and1_lt _ | exact nb_p) (by decide) (by decide)) dX5_generations_6 rfl rfl (by decide) (by decide) (Nat.le_of_ble_eq_true rfl) ?_
  refine V_ifb_ne (pc := 9) 15 dX5_generations_9 (by decide) (fun h_9 => ?_) (fun h_9 => ?_)
  · skip
    refine V_aload_n (pc := 15) dX5_generations_15 rfl ?_
    refine V_callV_V (pc := 16) ff_X5_layTrial ml_X5_180 (by first | rfl | assumption) rfl rfl (c_X5_layTrial) dX5_generations_16 rfl rfl (by decide) (by decide) (Nat.le_of_ble_eq_true rfl) ?_
    refine V_iconst (pc := 19) 0 dX5_generations_19 (by decide) ?_
    refine V_istore_n (pc := 20) dX5_generations_20 (by decide) rfl ?_
    refine V_iconst (pc := 21) 0 dX5_generations_21 (by decide) ?_
    refine V_istore_n (pc := 22) dX5_generations_22 (by decide) rfl ?_
    have L_23 : ∀ (m : Nat) (i : Nat) (z : Option Value), mm - i = m → i ≤ mm → V E B RX5 cX5_generations 5 4 Q 23 [some (.ref (B.1 0)), some (.int (nI mm)), some (.int (nI (geS σ (σ 0 28) (pM σ 0) i))), some (.int (nI i)), z] [] (stM (pt σ 0 28 (sdF (σ 0 28) i)) 1 (geT σ (σ 0 28) (cp32 (pM σ 0) (pM σ 1)) i)) := by
      intro m
      induction m using Nat.strongRecOn with
      | _ m ih =>
        intro i z hm hi
        have hO := OKP_geT o hTO (σ 0 28) i
        have h31 := geT_31 o (cp32 (pM σ 0) (pM σ 1)) (σ 0 28) i
        have hs1 := sdF_lt hsd (i + 1)
        have o' : OKK (pt σ 0 28 (sdF (σ 0 28) (i + 1))) := OKK_K (KEq_seed σ _).symm o
        refine V_iload_n (pc := 23) dX5_generations_23 rfl ?_
        refine V_iload_n (pc := 24) dX5_generations_24 rfl ?_
        refine V_icmp_ge (pc := 25) 136 dX5_generations_25 (by decide) (by first | omega | assumption | exact and1_lt _ | exact nb_p) (by first | omega | assumption | exact and1_lt _ | exact nb_p) (fun h_25 => ?_) (fun h_25 => ?_)
        · skip
          refine V_iload_n (pc := 136) dX5_generations_136 rfl ?_
          exact hret _ _ _ _ dX5_generations_137 (rI_mk (by unfold geM; rw [if_pos (by assumption), show i = mm by omega]) ⟨_, by unfold geN; rw [if_pos (by assumption), show i = mm by omega]⟩)
        · skip
          refine V_aload_n (pc := 28) dX5_generations_28 rfl ?_
          refine V_aload_n (pc := 29) dX5_generations_29 rfl ?_
          refine G_X5_seed (pc := 30) (by first | rfl | assumption) fl_X5_237 dX5_generations_30 ?_
          rw [stM_o (by decide), pt_at]
          refine V_ldc2N (pc := 33) (m := 6364136223846793005) kl_X5_243 rfl dX5_generations_33 ?_
          refine V_lmul (pc := 36) dX5_generations_36 ?_
          rw [lN_mul]
          refine V_ldc2N (pc := 37) (m := 1442695040888963407) kl_X5_245 rfl dX5_generations_37 ?_
          refine V_ladd (pc := 40) dX5_generations_40 ?_
          rw [lN_add, wb_mod (sdF (σ 0 28) i * 6364136223846793005 + 1442695040888963407)]
          refine P_X5_seed (pc := 41) (by first | rfl | assumption) fl_X5_237 dX5_generations_41 ?_
          rw [pt_stM (by decide), pt_pt, show (sdF (σ 0 28) i * 6364136223846793005 + 1442695040888963407) % 2 ^ 64 = sdF (σ 0 28) (i + 1) from rfl]
          refine V_aload_n (pc := 44) dX5_generations_44 rfl ?_
          refine G_X5_seed (pc := 45) (by first | rfl | assumption) fl_X5_237 dX5_generations_45 ?_
          rw [stM_o (by decide), pt_at]
          refine V_bipush (pc := 48) 33 dX5_generations_48 (by decide) ?_
          refine V_lushr (pc := 50) dX5_generations_50 (wb_shr (k := 33) hs1 (by decide)) ?_
          refine V_ldc2N (pc := 51) (m := 32) kl_X5_247 rfl dX5_generations_51 ?_
          have hq : sdF (σ 0 28) (i + 1) / 2 ^ 33 < 2 ^ 31 := by omega
          refine V_lrem (pc := 54) dX5_generations_54 (lN_ne0 (by decide) (by decide)) (pk_lRem (by omega) (by decide) (by decide)) ?_
          refine V_l2i (pc := 55) dX5_generations_55 (lN_i _) ?_
          rw [show sdF (σ 0 28) (i + 1) / 2 ^ 33 % 32 = vF (σ 0 28) i from rfl]
          have hv : vF (σ 0 28) i < 32 := Nat.mod_lt _ (by decide)
          refine V_istore (pc := 56) dX5_generations_56 (by decide) rfl ?_
          have J_122 : V E B RX5 cX5_generations 5 4 Q 122 [some (.ref (B.1 0)), some (.int (nI mm)), some (.int (nI (geS σ (σ 0 28) (pM σ 0) i))), some (.int (nI i)), some (.int (nI (vF (σ 0 28) i)))] [] (stM (pt σ 0 28 (sdF (σ 0 28) (i + 1))) 1 (geT σ (σ 0 28) (cp32 (pM σ 0) (pM σ 1)) (i + 1))) := by
            refine V_iload_n (pc := 122) dX5_generations_122 rfl ?_
            refine V_aload_n (pc := 123) dX5_generations_123 rfl ?_
            refine V_iconst (pc := 124) 1 dX5_generations_124 (by decide) ?_
            refine V_callV_I (pc := 125) ff_X5_weightsOn ml_X5_169 (by first | rfl | assumption) rfl rfl (c_X5_weightsOn (by decide) (by rw [stM_o (by decide), pt_ne (by decide)]; exact o2)) dX5_generations_125 rfl rfl (by decide) (by decide) (Nat.le_of_ble_eq_true rfl) ?_
            rw [pM_stM, stM_o (by decide), pt_ne (by decide), wtS_cong (PEq_geT o hTP (σ 0 28) (i + 1)) _ o2, show geS σ (σ 0 28) (pM σ 0) i = geS σ (σ 0 28) (pM σ 0) i from rfl]
            refine V_iadd (pc := 128) dX5_generations_128 ?_
            refine V_istore_n (pc := 129) dX5_generations_129 (by decide) rfl ?_
            refine V_iinc (pc := 130) 1 dX5_generations_130 (by decide) rfl (by decide) rfl ?_
            refine V_goto (pc := 133) 23 dX5_generations_133 (by decide) ?_
            have e := ih _ (by omega) (i + 1) (some (.int (nI (vF (σ 0 28) i)))) rfl (by omega)
            exact e
          refine V_iload (pc := 58) dX5_generations_58 rfl ?_
          refine V_bipush (pc := 60) 16 dX5_generations_60 (by decide) ?_
          refine V_icmp_le (pc := 62) 74 dX5_generations_62 (by decide) (by first | omega | assumption | exact and1_lt _ | exact nb_p) (by first | omega | assumption | exact and1_lt _ | exact nb_p) (fun h_62 => ?_) (fun h_62 => ?_)
          · skip
            refine V_iload (pc := 74) dX5_generations_74 rfl ?_
            refine V_bipush (pc := 76) 11 dX5_generations_76 (by decide) ?_
            refine V_icmp_le (pc := 78) 106 dX5_generations_78 (by decide) (by first | omega | assumption | exact and1_lt _ | exact nb_p) (by first | omega | assumption | exact and1_lt _ | exact nb_p) (fun h_78 => ?_) (fun h_78 => ?_)
            · skip
              refine V_aload_n (pc := 106) dX5_generations_106 rfl ?_
              refine G_X5_children (pc := 107) (by first | rfl | assumption) fl_X5_114 dX5_generations_107 ?_
              rw [stM_o (by decide), pt_ne (by decide)]
              refine V_if_le (pc := 110) 122 dX5_generations_110 (by decide) (by first | omega | assumption | exact and1_lt _ | exact nb_p) (fun h_110 => ?_) (fun h_110 => ?_)
              · skip
                have e := J_122
                rw [show geT σ (σ 0 28) (cp32 (pM σ 0) (pM σ 1)) (i + 1) = gnT σ (geT σ (σ 0 28) (cp32 (pM σ 0) (pM σ 1)) i) (vF (σ 0 28) i) from rfl] at e
                unfold gnT at e
                first
                | (rw [if_pos h_62] at e; exact e)
                | (rw [if_neg (by omega), if_pos h_78] at e; first | (rw [if_pos h_90] at e; exact e) | (rw [if_neg h_90] at e; exact e))
                | (rw [if_neg (by omega), if_neg (by omega)] at e; first | (rw [if_neg (by omega)] at e; exact e) | (rw [if_pos (by omega)] at e; rw [show pt (stM (pt σ 0 28 (sdF (σ 0 28) (i + 1))) 1 (geT σ (σ 0 28) (cp32 (pM σ 0) (pM σ 1)) i)) 6 32 (vF (σ 0 28) i) = stM (pt σ 0 28 (sdF (σ 0 28) (i + 1))) 1 (fup (geT σ (σ 0 28) (cp32 (pM σ 0) (pM σ 1)) i) 0 (vF (σ 0 28) i)) from stM_put1 _ _ 0 _]; exact e))
              · skip
                refine V_aload_n (pc := 113) dX5_generations_113 rfl ?_
                refine G_X5_now (pc := 114) (by first | rfl | assumption) fl_X5_25 dX5_generations_114 ?_
                refine V_bipush (pc := 117) 32 dX5_generations_117 (by decide) ?_
                refine V_iload (pc := 119) dX5_generations_119 rfl ?_
                refine V_iast (pc := 121) (by first | rfl | assumption) (by first | omega | assumption | exact and1_lt _ | exact nb_p) dX5_generations_121 ?_
                have e := J_122
                rw [show geT σ (σ 0 28) (cp32 (pM σ 0) (pM σ 1)) (i + 1) = gnT σ (geT σ (σ 0 28) (cp32 (pM σ 0) (pM σ 1)) i) (vF (σ 0 28) i) from rfl] at e
                unfold gnT at e
                first
                | (rw [if_pos h_62] at e; exact e)
                | (rw [if_neg (by omega), if_pos h_78] at e; first | (rw [if_pos h_90] at e; exact e) | (rw [if_neg h_90] at e; exact e))
                | (rw [if_neg (by omega), if_neg (by omega)] at e; first | (rw [if_neg (by omega)] at e; exact e) | (rw [if_pos (by omega)] at e; rw [show pt (stM (pt σ 0 28 (sdF (σ 0 28) (i + 1))) 1 (geT σ (σ 0 28) (cp32 (pM σ 0) (pM σ 1)) i)) 6 32 (vF (σ 0 28) i) = stM (pt σ 0 28 (sdF (σ 0 28) (i + 1))) 1 (fup (geT σ (σ 0 28) (cp32 (pM σ 0) (pM σ 1)) i) 0 (vF (σ 0 28) i)) from stM_put1 _ _ 0 _]; exact e))
            · skip
              refine V_aload_n (pc := 81) dX5_generations_81 rfl ?_
              refine V_iload (pc := 82) dX5_generations_82 rfl ?_
              refine V_bipush (pc := 84) 12 dX5_generations_84 (by decide) ?_
              refine V_isub (pc := 86) dX5_generations_86 (by omega) ?_
              refine V_callV_I (pc := 87) ff_X5_isChild ml_X5_153 (by first | rfl | assumption) rfl rfl (c_X5_isChild (by omega) (by rw [stM_o (by decide), pt_ne (by decide)]; omega)) dX5_generations_87 rfl rfl (by decide) (by decide) (Nat.le_of_ble_eq_true rfl) ?_
              rw [stM_o (by decide), pt_ne (by decide)]
              refine V_ifb_eq (pc := 90) 122 dX5_generations_90 (by decide) (fun h_90 => ?_) (fun h_90 => ?_)
              · skip
                have e := J_122
                rw [show geT σ (σ 0 28) (cp32 (pM σ 0) (pM σ 1)) (i + 1) = gnT σ (geT σ (σ 0 28) (cp32 (pM σ 0) (pM σ 1)) i) (vF (σ 0 28) i) from rfl] at e
                unfold gnT at e
                first
                | (rw [if_pos h_62] at e; exact e)
                | (rw [if_neg (by omega), if_pos h_78] at e; first | (rw [if_pos h_90] at e; exact e) | (rw [if_neg h_90] at e; exact e))
                | (rw [if_neg (by omega), if_neg (by omega)] at e; first | (rw [if_neg (by omega)] at e; exact e) | (rw [if_pos (by omega)] at e; rw [show pt (stM (pt σ 0 28 (sdF (σ 0 28) (i + 1))) 1 (geT σ (σ 0 28) (cp32 (pM σ 0) (pM σ 1)) i)) 6 32 (vF (σ 0 28) i) = stM (pt σ 0 28 (sdF (σ 0 28) (i + 1))) 1 (fup (geT σ (σ 0 28) (cp32 (pM σ 0) (pM σ 1)) i) 0 (vF (σ 0 28) i)) from stM_put1 _ _ 0 _]; exact e))
              · skip
                refine V_aload_n (pc := 93) dX5_generations_93 rfl ?_
                refine V_iconst (pc := 94) 1 dX5_generations_94 (by decide) ?_
                refine V_iload (pc := 95) dX5_generations_95 rfl ?_
                refine V_bipush (pc := 97) 12 dX5_generations_97 (by decide) ?_
                refine V_isub (pc := 99) dX5_generations_99 (by omega) ?_
                refine V_callV_V (pc := 100) ff_X5_putOn ml_X5_175 (by first | rfl | assumption) rfl rfl (c_X5_putOn2 (by decide) (by omega)) dX5_generations_100 rfl rfl (by decide) (by decide) (Nat.le_of_ble_eq_true rfl) ?_
                refine V_goto (pc := 103) 122 dX5_generations_103 (by decide) ?_
                have e := J_122
                rw [show geT σ (σ 0 28) (cp32 (pM σ 0) (pM σ 1)) (i + 1) = gnT σ (geT σ (σ 0 28) (cp32 (pM σ 0) (pM σ 1)) i) (vF (σ 0 28) i) from rfl] at e
                unfold gnT at e
                first
                | (rw [if_pos h_62] at e; exact e)
                | (rw [if_neg (by omega), if_pos h_78] at e; first | (rw [if_pos h_90] at e; exact e) | (rw [if_neg h_90] at e; exact e))
                | (rw [if_neg (by omega), if_neg (by omega)] at e; first | (rw [if_neg (by omega)] at e; exact e) | (rw [if_pos (by omega)] at e; rw [show pt (stM (pt σ 0 28 (sdF (σ 0 28) (i + 1))) 1 (geT σ (σ 0 28) (cp32 (pM σ 0) (pM σ 1)) i)) 6 32 (vF (σ 0 28) i) = stM (pt σ 0 28 (sdF (σ 0 28) (i + 1))) 1 (fup (geT σ (σ 0 28) (cp32 (pM σ 0) (pM σ 1)) i) 0 (vF (σ 0 28) i)) from stM_put1 _ _ 0 _]; exact e))
          · skip
            refine V_aload_n (pc := 65) dX5_generations_65 rfl ?_
            refine V_iconst (pc := 66) 1 dX5_generations_66 (by decide) ?_
            refine V_iconst (pc := 67) 1 dX5_generations_67 (by decide) ?_
            refine V_callV_V (pc := 68) ff_X5_passOn ml_X5_165 (by first | rfl | assumption) rfl rfl (c_X5_passOn2 (z := 1) o' (by rw [pt_ne (by decide)]; omega) (by decide) (by decide) hO (by omega)) dX5_generations_68 rfl rfl (by decide) (by decide) (Nat.le_of_ble_eq_true rfl) ?_
            rw [if_pos rfl, psn_K (KEq_seed σ _), wyO_K (KEq_seed σ _), pt_ne (by decide), ht]
            refine V_goto (pc := 71) 122 dX5_generations_71 (by decide) ?_
            have e := J_122
            rw [show geT σ (σ 0 28) (cp32 (pM σ 0) (pM σ 1)) (i + 1) = gnT σ (geT σ (σ 0 28) (cp32 (pM σ 0) (pM σ 1)) i) (vF (σ 0 28) i) from rfl] at e
            unfold gnT at e
            first
            | (rw [if_pos h_62] at e; exact e)
            | (rw [if_neg (by omega), if_pos h_78] at e; first | (rw [if_pos h_90] at e; exact e) | (rw [if_neg h_90] at e; exact e))
            | (rw [if_neg (by omega), if_neg (by omega)] at e; first | (rw [if_neg (by omega)] at e; exact e) | (rw [if_pos (by omega)] at e; rw [show pt (stM (pt σ 0 28 (sdF (σ 0 28) (i + 1))) 1 (geT σ (σ 0 28) (cp32 (pM σ 0) (pM σ 1)) i)) 6 32 (vF (σ 0 28) i) = stM (pt σ 0 28 (sdF (σ 0 28) (i + 1))) 1 (fup (geT σ (σ 0 28) (cp32 (pM σ 0) (pM σ 1)) i) 0 (vF (σ 0 28) i)) from stM_put1 _ _ 0 _]; exact e))
    have e := L_23 _ 0 none rfl (by omega)
    rw [show sdF (σ 0 28) 0 = σ 0 28 from rfl, pt_id rfl] at e
    exact e
  · skip
    refine V_bipush (pc := 12) 4294967294 dX5_generations_12 (by decide) ?_
    exact hret _ _ _ _ dX5_generations_14 (rI_mk (by unfold geM; rw [if_neg (by assumption)]) ⟨pM σ 1, by unfold geN; rw [if_neg (by assumption), pt_id rfl, stM_self]⟩)
