/-! BEGAN, SHARE, RESTS of the model -/
def wkC (K : St) (f : Nat) : Nat → Nat
  | 0 => f
  | d + 1 => onw (wkC K f d) (wyO K d)
def wkN (K : St) (s f : Nat) : Nat → Nat
  | 0 => 0
  | d + 1 => if grA K 63 (wkC K f (d + 1)) ≠ 4294967287 ∧ K 3 (grA K 63 (wkC K f (d + 1))) = s then tgh (K 4 (grA K 63 (wkC K f (d + 1)))) (wkN K s f d) 0 else wkN K s f d
theorem wkC_lt {K : St} {f : Nat} (h : f < 12) : ∀ d, wkC K f d < 12
  | 0 => h
  | d + 1 => onw_lt (wkC_lt h d)
theorem wkN_le (K : St) (s f : Nat) : ∀ d, wkN K s f d ≤ 9
  | 0 => Nat.zero_le _
  | d + 1 => by
    unfold wkN
    split
    · exact tgh_le (wkN_le K s f d)
    · exact wkN_le K s f d
theorem wyO_le {K : St} (o : OKK K) (day : Nat) : wyO K day ≤ 4 := by
  unfold wyO
  split
  · omega
  · exact o.2.2.2.1 _ (Nat.mod_lt _ (by omega))
set_option maxHeartbeats 4000000 in
set_option maxRecDepth 100000 in
theorem c_X5_wouldKnow {B : Bk} {σ : St} {f s n : Nat} (o : OKK σ) (ht : σ 0 20 = 63) (hf : f < 12) (hs : s < 5) (hn : n ≤ 9) : MC yX5_wouldKnow cX5_wouldKnow 8 (some .int) 2 B [.ref (B.1 0), .int (nI f), .int (nI s), .int (nI n)] σ (dI (wkN σ s f n) σ) := by
  obtain ⟨o0, o1, o2, o3, o4, o5⟩ := id o
  refine MC_int RX5 [some (.ref (B.1 0)), some (.int (nI f)), some (.int (nI s)), some (.int (nI n)), none, none, none, none] 4 (by decide +kernel) rfl rfl (Nat.le_of_ble_eq_true rfl) (fun E Q hret => ?_)
  refine V_iload_n (pc := 0) dX5_wouldKnow_0 rfl ?_
  refine V_istore (pc := 1) dX5_wouldKnow_1 (by decide) rfl ?_
  refine V_iconst (pc := 3) 0 dX5_wouldKnow_3 (by decide) ?_
  refine V_istore (pc := 4) dX5_wouldKnow_4 (by decide) rfl ?_
  refine V_iconst (pc := 6) 0 dX5_wouldKnow_6 (by decide) ?_
  refine V_istore (pc := 7) dX5_wouldKnow_7 (by decide) rfl ?_
  have L_9 : ∀ (m : Nat) (i k : Nat) (z : Option Value), n - i = m → i ≤ n → k = wkN σ s f i → V E B RX5 cX5_wouldKnow 8 2 Q 9 [some (.ref (B.1 0)), some (.int (nI f)), some (.int (nI s)), some (.int (nI n)), some (.int (nI (wkC σ f i))), some (.int (nI k)), some (.int (nI i)), z] [] (σ) := by
    intro m
    induction m using Nat.strongRecOn with
    | _ m ih =>
      intro i k z hm hi hk
      have hc := wkC_lt (K := σ) hf i
      have hw := wyO_le o i
      have hc2 := wkC_lt (K := σ) hf (i + 1)
      have hkl := wkN_le σ s f i
      have hgl := grA_lt o 63 (wkC σ f (i + 1))
      refine V_iload (pc := 9) dX5_wouldKnow_9 rfl ?_
      refine V_iload_n (pc := 11) dX5_wouldKnow_11 rfl ?_
      refine V_icmp_ge (pc := 12) 80 dX5_wouldKnow_12 (by decide) (by first | omega | assumption | exact and1_lt _ | exact nb_p) (by first | omega | assumption | exact and1_lt _ | exact nb_p) (fun h_12 => ?_) (fun h_12 => ?_)
      · skip
        refine V_iload (pc := 80) dX5_wouldKnow_80 rfl ?_
        exact hret _ _ _ _ dX5_wouldKnow_82 (dI_mk (by rw [hk, show i = n by omega]) rfl)
      · skip
        refine V_iload (pc := 15) dX5_wouldKnow_15 rfl ?_
        refine V_aload_n (pc := 17) dX5_wouldKnow_17 rfl ?_
        refine V_iload (pc := 18) dX5_wouldKnow_18 rfl ?_
        refine V_callV_I (pc := 20) ff_X5_wayOf ml_X5_133 (by first | rfl | assumption) rfl rfl (c_X5_wayOf (by assumption) (by first | omega | assumption)) dX5_wouldKnow_20 rfl rfl (by decide) (by decide) (Nat.le_of_ble_eq_true rfl) ?_
        refine V_callS_I (pc := 23) ff_X5_onward ml_X5_136 (c_X5_onward (by first | omega | assumption) (by first | omega | assumption)) dX5_wouldKnow_23 rfl rfl (by decide) (by decide) (Nat.le_of_ble_eq_true rfl) ?_
        rw [show onw (wkC σ f i) (wyO σ i) = wkC σ f (i + 1) from rfl]
        refine V_istore (pc := 26) dX5_wouldKnow_26 (by decide) rfl ?_
        refine V_aload_n (pc := 28) dX5_wouldKnow_28 rfl ?_
        refine V_iload (pc := 29) dX5_wouldKnow_29 rfl ?_
        refine V_callV_I (pc := 31) ff_X5_groundAt ml_X5_122 (by first | rfl | assumption) rfl rfl (c_X5_groundAt o (by omega) (by omega)) dX5_wouldKnow_31 rfl rfl (by decide) (by decide) (Nat.le_of_ble_eq_true rfl) ?_
        rw [ht]
        refine V_istore (pc := 34) dX5_wouldKnow_34 (by decide) rfl ?_
        refine V_iload (pc := 36) dX5_wouldKnow_36 rfl ?_
        refine V_bipush (pc := 38) 4294967287 dX5_wouldKnow_38 (by decide) ?_
        refine V_icmp_eq (pc := 40) 70 dX5_wouldKnow_40 (by decide) (by first | omega | assumption | exact and1_lt _ | exact nb_p) (by first | omega | assumption | exact and1_lt _ | exact nb_p) (fun h_40 => ?_) (fun h_40 => ?_)
        · skip
          refine V_iload (pc := 70) dX5_wouldKnow_70 rfl ?_
          refine V_istore (pc := 72) dX5_wouldKnow_72 (by decide) rfl ?_
          refine V_iinc (pc := 74) 1 dX5_wouldKnow_74 (by decide) rfl (by decide) rfl ?_
          refine V_goto (pc := 77) 9 dX5_wouldKnow_77 (by decide) ?_
          exact ih _ (by omega) (i + 1) _ _ rfl (by omega) (by rw [wkN, hk]; split <;> first | (exfalso; omega) | rfl)
        · skip
          have hg : grA σ 63 (wkC σ f (i + 1)) < σ 0 1 := by
            rcases grA_or o 63 (wkC σ f (i + 1)) with e | e
            · exact absurd e h_40
            · exact e
          have h4 := o4 _ hg
          refine V_aload_n (pc := 43) dX5_wouldKnow_43 rfl ?_
          refine G_X5_groundSubject (pc := 44) (by first | rfl | assumption) fl_X5_16 dX5_wouldKnow_44 ?_
          refine V_iload (pc := 47) dX5_wouldKnow_47 rfl ?_
          refine V_iald (pc := 49) (by first | rfl | assumption) (by first | omega | assumption | exact and1_lt _ | exact nb_p) dX5_wouldKnow_49 ?_
          refine V_iload_n (pc := 50) dX5_wouldKnow_50 rfl ?_
          refine V_icmp_ne (pc := 51) 70 dX5_wouldKnow_51 (by decide) (by first | omega | assumption | exact and1_lt _ | exact nb_p) (by first | omega | assumption | exact and1_lt _ | exact nb_p) (fun h_51 => ?_) (fun h_51 => ?_)
          · skip
            refine V_iload (pc := 70) dX5_wouldKnow_70 rfl ?_
            refine V_istore (pc := 72) dX5_wouldKnow_72 (by decide) rfl ?_
            refine V_iinc (pc := 74) 1 dX5_wouldKnow_74 (by decide) rfl (by decide) rfl ?_
            refine V_goto (pc := 77) 9 dX5_wouldKnow_77 (by decide) ?_
            exact ih _ (by omega) (i + 1) _ _ rfl (by omega) (by rw [wkN, hk]; split <;> first | (exfalso; omega) | rfl)
          · skip
            refine V_aload_n (pc := 54) dX5_wouldKnow_54 rfl ?_
            refine G_X5_groundKind (pc := 55) (by first | rfl | assumption) fl_X5_19 dX5_wouldKnow_55 ?_
            refine V_iload (pc := 58) dX5_wouldKnow_58 rfl ?_
            refine V_iald (pc := 60) (by first | rfl | assumption) (by first | omega | assumption | exact and1_lt _ | exact nb_p) dX5_wouldKnow_60 ?_
            refine V_iload (pc := 61) dX5_wouldKnow_61 rfl ?_
            refine V_iconst (pc := 63) 0 dX5_wouldKnow_63 (by decide) ?_
            refine V_callS_I (pc := 64) ff_X5_taught ml_X5_129 (c_X5_taught (by first | omega | assumption) (by first | omega | assumption) (by first | omega | assumption)) dX5_wouldKnow_64 rfl rfl (by decide) (by decide) (Nat.le_of_ble_eq_true rfl) ?_
            refine V_goto (pc := 67) 72 dX5_wouldKnow_67 (by decide) ?_
            refine V_istore (pc := 72) dX5_wouldKnow_72 (by decide) rfl ?_
            refine V_iinc (pc := 74) 1 dX5_wouldKnow_74 (by decide) rfl (by decide) rfl ?_
            refine V_goto (pc := 77) 9 dX5_wouldKnow_77 (by decide) ?_
            exact ih _ (by omega) (i + 1) _ _ rfl (by omega) (by rw [wkN, hk]; split <;> first | (exfalso; omega) | rfl)
  exact L_9 _ 0 _ none rfl (by omega) rfl
abbrev bgP (K : St) (kS kD kV : Nat → Nat) (n cell : Nat) : Prop := ∀ k, k < n → wkN K (kS k) cell (kD k) = kV k
def bgF (K : St) (kS kD kV : Nat → Nat) (n : Nat) : Nat → Nat
  | 0 => 0
  | c + 1 => bgF K kS kD kV n c ||| (if bgP K kS kD kV n c then 1 * 2 ^ c else 0)
def OKW (σ : St) : Prop := σ 0 24 ≤ 6 ∧ ∀ k, k < σ 0 24 → σ 12 k < 5 ∧ σ 13 k ≤ 9 ∧ σ 14 k ≤ 9
set_option maxHeartbeats 4000000 in
set_option maxRecDepth 100000 in
theorem c_X5_began {B : Bk} {σ : St} (g : GM σ) (w : OKW σ) : MC yX5_began cX5_began 5 (some .int) 3 B [.ref (B.1 0)] σ (dI (bgF σ (σ 12) (σ 13) (σ 14) (σ 0 24) 12) σ) := by
  obtain ⟨o, ht, hp, hd⟩ := g
  obtain ⟨o0, o1, o2, o3, o4, o5⟩ := id o
  have ht64 : σ 0 20 < 64 := by omega
  obtain ⟨w1, w2⟩ := w
  refine MC_int RX5 [some (.ref (B.1 0)), none, none, none, none] 4 (by decide +kernel) rfl rfl (Nat.le_of_ble_eq_true rfl) (fun E Q hret => ?_)
  refine V_iconst (pc := 0) 0 dX5_began_0 (by decide) ?_
  refine V_istore_n (pc := 1) dX5_began_1 (by decide) rfl ?_
  refine V_iconst (pc := 2) 0 dX5_began_2 (by decide) ?_
  refine V_istore_n (pc := 3) dX5_began_3 (by decide) rfl ?_
  have L_4 : ∀ (mO : Nat) (c se : Nat) (x y : Option Value), 12 - c = mO → c ≤ 12 → se = bgF σ (σ 12) (σ 13) (σ 14) (σ 0 24) c → okS [none, none, some (.int 0), x, y] 3 = true → okS [none, none, some (.int 0), some (.int 0), y] 4 = true → V E B RX5 cX5_began 5 3 Q 4 [some (.ref (B.1 0)), some (.int (nI se)), some (.int (nI c)), x, y] [] (σ) := by
    intro mO
    induction mO using Nat.strongRecOn with
    | _ mO ihO =>
      intro c se x y hm hc hse hx hy
      refine V_iload_n (pc := 4) dX5_began_4 rfl ?_
      refine V_bipush (pc := 5) 12 dX5_began_5 (by decide) ?_
      refine V_icmp_ge (pc := 7) 89 dX5_began_7 (by decide) (by first | omega | assumption | exact and1_lt _ | exact nb_p) (by first | omega | assumption | exact and1_lt _ | exact nb_p) (fun h_7 => ?_) (fun h_7 => ?_)
      · skip
        refine V_iload_n (pc := 89) dX5_began_89 rfl ?_
        exact hret _ _ _ _ dX5_began_90 (dI_mk (by rw [hse, show c = 12 by omega]) rfl)
      · skip
        refine V_iconst (pc := 10) 1 dX5_began_10 (by decide) ?_
        refine V_istore_n (pc := 11) dX5_began_11 (by decide) rfl ?_
        refine V_iconst (pc := 12) 0 dX5_began_12 (by decide) ?_
        refine V_istore (pc := 13) dX5_began_13 (by decide) rfl ?_
        have L_15 : ∀ (m : Nat) (i ft : Nat), σ 0 24 - i = m → i ≤ σ 0 24 → ft = (if ∀ k, k < i → wkN σ (σ 12 k) c (σ 13 k) = σ 14 k then 1 else 0) → V E B RX5 cX5_began 5 3 Q 15 [some (.ref (B.1 0)), some (.int (nI se)), some (.int (nI c)), some (.int (nI ft)), some (.int (nI i))] [] (σ) := by
          intro m
          induction m using Nat.strongRecOn with
          | _ m ih =>
            intro i ft hm2 hi hft
            have hf2 : ft < 2 := by rw [hft]; split <;> omega
            refine V_iload (pc := 15) dX5_began_15 rfl ?_
            refine V_aload_n (pc := 17) dX5_began_17 rfl ?_
            refine G_X5_known (pc := 18) (by first | rfl | assumption) fl_X5_206 dX5_began_18 ?_
            refine V_icmp_ge (pc := 21) 69 dX5_began_21 (by decide) (by first | omega | assumption | exact and1_lt _ | exact nb_p) (by first | omega | assumption | exact and1_lt _ | exact nb_p) (fun h_21 => ?_) (fun h_21 => ?_)
            · skip
              refine V_iload_n (pc := 69) dX5_began_69 rfl ?_
              refine V_iload_n (pc := 70) dX5_began_70 rfl ?_
              refine V_if_eq (pc := 71) 80 dX5_began_71 (by decide) (by first | omega | assumption | exact and1_lt _ | exact nb_p) (fun h_71 => ?_) (fun h_71 => ?_)
              · skip
                refine V_iconst (pc := 80) 0 dX5_began_80 (by decide) ?_
                refine V_ior (pc := 81) dX5_began_81 ?_
                refine V_istore_n (pc := 82) dX5_began_82 (by decide) rfl ?_
                refine V_iinc (pc := 83) 1 dX5_began_83 (by decide) rfl (by decide) rfl ?_
                refine V_goto (pc := 86) 4 dX5_began_86 (by decide) ?_
                have hie : i = σ 0 24 := by omega
                rw [hie] at hft
                exact ihO _ (by omega) (c + 1) _ _ _ rfl (by omega) (by rw [bgF, hse]; congr 1; split at hft <;> split <;> first | (exfalso; omega) | rfl | (exfalso; rename_i q1 q2; first | exact q1 q2 | exact q2 q1)) rfl rfl
              · skip
                refine V_iconst (pc := 74) 1 dX5_began_74 (by decide) ?_
                refine V_iload_n (pc := 75) dX5_began_75 rfl ?_
                refine V_ishl (pc := 76) dX5_began_76 (by first | omega | assumption | exact and1_lt _ | exact nb_p) ?_
                refine V_goto (pc := 77) 81 dX5_began_77 (by decide) ?_
                refine V_ior (pc := 81) dX5_began_81 ?_
                refine V_istore_n (pc := 82) dX5_began_82 (by decide) rfl ?_
                refine V_iinc (pc := 83) 1 dX5_began_83 (by decide) rfl (by decide) rfl ?_
                refine V_goto (pc := 86) 4 dX5_began_86 (by decide) ?_
                have hie : i = σ 0 24 := by omega
                rw [hie] at hft
                exact ihO _ (by omega) (c + 1) _ _ _ rfl (by omega) (by rw [bgF, hse]; congr 1; split at hft <;> split <;> first | (exfalso; omega) | rfl | (exfalso; rename_i q1 q2; first | exact q1 q2 | exact q2 q1)) rfl rfl
            · skip
              refine V_iload_n (pc := 24) dX5_began_24 rfl ?_
              refine V_if_eq (pc := 25) 61 dX5_began_25 (by decide) (by first | omega | assumption | exact and1_lt _ | exact nb_p) (fun h_25 => ?_) (fun h_25 => ?_)
              · skip
                refine V_iconst (pc := 61) 0 dX5_began_61 (by decide) ?_
                refine V_istore_n (pc := 62) dX5_began_62 (by decide) rfl ?_
                refine V_iinc (pc := 63) 1 dX5_began_63 (by decide) rfl (by decide) rfl ?_
                refine V_goto (pc := 66) 15 dX5_began_66 (by decide) ?_
                exact ih _ (by omega) (i + 1) _ rfl (by omega) (by
                  rw [hft] at h_25
                  split at h_25
                  · rename_i q
                    split
                    · rename_i q2
                      first
                      | rfl
                      | (exfalso; exact h_54 (q2 i (by omega)))
                      | (exfalso; omega)
                    · rename_i q2
                      first
                      | rfl
                      | (exfalso; omega)
                      | (exfalso; exact q2 (fun k hk => by
                          rcases (show k < i ∨ k = i by omega) with h | rfl
                          · exact q k h
                          · exact h_54))
                  · rename_i q
                    rw [if_neg (fun q2 => q (fun k hk => q2 k (by omega)))] <;> (exfalso; omega))
              · skip
                refine V_aload_n (pc := 28) dX5_began_28 rfl ?_
                refine V_iload_n (pc := 29) dX5_began_29 rfl ?_
                refine V_aload_n (pc := 30) dX5_began_30 rfl ?_
                refine G_X5_knownSubject (pc := 31) (by first | rfl | assumption) fl_X5_47 dX5_began_31 ?_
                refine V_iload (pc := 34) dX5_began_34 rfl ?_
                refine V_iald (pc := 36) (by first | rfl | assumption) (by first | omega | assumption | exact and1_lt _ | exact nb_p) dX5_began_36 ?_
                refine V_aload_n (pc := 37) dX5_began_37 rfl ?_
                refine G_X5_knownDays (pc := 38) (by first | rfl | assumption) fl_X5_50 dX5_began_38 ?_
                refine V_iload (pc := 41) dX5_began_41 rfl ?_
                refine V_iald (pc := 43) (by first | rfl | assumption) (by first | omega | assumption | exact and1_lt _ | exact nb_p) dX5_began_43 ?_
                have hw2 := w2 i (by omega)
                refine V_callV_I (pc := 44) ff_X5_wouldKnow ml_X5_209 (by first | rfl | assumption) rfl rfl (c_X5_wouldKnow o ht (by omega) (by omega) (by omega)) dX5_began_44 rfl rfl (by decide) (by decide) (Nat.le_of_ble_eq_true rfl) ?_
                refine V_aload_n (pc := 47) dX5_began_47 rfl ?_
                refine G_X5_knownMuch (pc := 48) (by first | rfl | assumption) fl_X5_53 dX5_began_48 ?_
                refine V_iload (pc := 51) dX5_began_51 rfl ?_
                refine V_iald (pc := 53) (by first | rfl | assumption) (by first | omega | assumption | exact and1_lt _ | exact nb_p) dX5_began_53 ?_
                refine V_icmp_ne (pc := 54) 61 dX5_began_54 (by decide) (by have := wkN_le σ (σ 12 i) c (σ 13 i); omega) (by omega) (fun h_54 => ?_) (fun h_54 => ?_)
                · skip
                  refine V_iconst (pc := 61) 0 dX5_began_61 (by decide) ?_
                  refine V_istore_n (pc := 62) dX5_began_62 (by decide) rfl ?_
                  refine V_iinc (pc := 63) 1 dX5_began_63 (by decide) rfl (by decide) rfl ?_
                  refine V_goto (pc := 66) 15 dX5_began_66 (by decide) ?_
                  exact ih _ (by omega) (i + 1) _ rfl (by omega) (by
                    rw [hft] at h_25
                    split at h_25
                    · rename_i q
                      split
                      · rename_i q2
                        first
                        | rfl
                        | (exfalso; exact h_54 (q2 i (by omega)))
                        | (exfalso; omega)
                      · rename_i q2
                        first
                        | rfl
                        | (exfalso; omega)
                        | (exfalso; exact q2 (fun k hk => by
                            rcases (show k < i ∨ k = i by omega) with h | rfl
                            · exact q k h
                            · exact h_54))
                    · rename_i q
                      rw [if_neg (fun q2 => q (fun k hk => q2 k (by omega)))] <;> (exfalso; omega))
                · skip
                  refine V_iconst (pc := 57) 1 dX5_began_57 (by decide) ?_
                  refine V_goto (pc := 58) 62 dX5_began_58 (by decide) ?_
                  refine V_istore_n (pc := 62) dX5_began_62 (by decide) rfl ?_
                  refine V_iinc (pc := 63) 1 dX5_began_63 (by decide) rfl (by decide) rfl ?_
                  refine V_goto (pc := 66) 15 dX5_began_66 (by decide) ?_
                  exact ih _ (by omega) (i + 1) _ rfl (by omega) (by
                    rw [hft] at h_25
                    split at h_25
                    · rename_i q
                      split
                      · rename_i q2
                        first
                        | rfl
                        | (exfalso; exact h_54 (q2 i (by omega)))
                        | (exfalso; omega)
                      · rename_i q2
                        first
                        | rfl
                        | (exfalso; omega)
                        | (exfalso; exact q2 (fun k hk => by
                            rcases (show k < i ∨ k = i by omega) with h | rfl
                            · exact q k h
                            · exact h_54))
                    · rename_i q
                      rw [if_neg (fun q2 => q (fun k hk => q2 k (by omega)))] <;> (exfalso; omega))
        exact L_15 _ 0 _ rfl (by omega) (by rw [if_pos (fun k hk => absurd hk (by omega))])
  exact L_4 _ 0 _ none none rfl (by omega) rfl rfl rfl
theorem pt_stM {σ : St} {L k i x : Nat} {P : Nat → Nat} (h : k ≠ 6) : pt (stM σ L P) k i x = stM (pt σ k i x) L P := by
  funext k' i'
  simp only [pt, stM]
  by_cases c : k' = k ∧ i' = i
  · rw [if_pos c, if_neg (by omega), if_pos c]
  · rw [if_neg c, if_neg c]
theorem pt_pt (σ : St) (k i x y : Nat) : pt (pt σ k i x) k i y = pt σ k i y := by
  funext k' i'
  unfold pt
  split <;> rfl
theorem pt_id {σ : St} {k i x : Nat} (h : σ k i = x) : pt σ k i x = σ := by
  funext k' i'
  unfold pt
  split
  · rename_i c; rw [c.1, c.2, h]
  · rfl
theorem KEq_there (σ : St) (x : Nat) : KEq (pt σ 0 20 x) σ := ⟨pt_ne (by decide), pt_ne (by decide), pt_ne (by decide), fun k h1 h2 => pt_o (by omega)⟩
theorem pM_pt0 (σ : St) (i x L : Nat) : pM (pt σ 0 i x) L = pM σ L := by
  funext j
  exact pt_ne (by omega)
def wbW (K : St) (P : Nat → Nat) (th c : Nat) : Nat := wtF (itr K th P 6) c 5
set_option maxHeartbeats 4000000 in
set_option maxRecDepth 100000 in
theorem c_X5_weightBy {B : Bk} {σ : St} {th c : Nat} {T : Nat → Nat} (hth : th < 64) (hc : c < σ 0 2) (g : GM σ) : MC yX5_weightBy cX5_weightBy 3 (some .int) 5 B [.ref (B.1 0), .int (nI th), .int (nI c)] (stM σ 1 T) (rI (wbW σ (pM σ 0) th c) (TR σ)) := by
  obtain ⟨o, ht, hp, hd⟩ := g
  obtain ⟨o0, o1, o2, o3, o4, o5⟩ := id o
  have ht64 : σ 0 20 < 64 := by omega
  have h1 : PEq (σ 0 2) (cp32 (pM σ 0) T) (pM σ 0) := cp_PEq _ o2 _ _
  have h2 : OKP (cp32 (pM σ 0) T) := cp_OKP hp _
  have h3 : cp32 (pM σ 0) T 31 = pM σ 0 31 := cp_lt (by decide)
  refine MC_int RX5 [some (.ref (B.1 0)), some (.int (nI th)), some (.int (nI c))] 0 (by decide +kernel) rfl rfl (Nat.le_of_ble_eq_true rfl) (fun E Q hret => ?_)
  refine V_aload_n (pc := 0) dX5_weightBy_0 rfl ?_
  refine V_iload_n (pc := 1) dX5_weightBy_1 rfl ?_
  refine P_X5_there (pc := 2) (by first | rfl | assumption) fl_X5_40 dX5_weightBy_2 ?_
  rw [pt_stM (by decide)]
  refine V_aload_n (pc := 5) dX5_weightBy_5 rfl ?_
  refine V_callV_V (pc := 6) ff_X5_layTrial ml_X5_180 (by first | rfl | assumption) rfl rfl (c_X5_layTrial2) dX5_weightBy_6 rfl rfl (by decide) (by decide) (Nat.le_of_ble_eq_true rfl) ?_
  rw [pM_pt0]
  refine V_aload_n (pc := 9) dX5_weightBy_9 rfl ?_
  refine V_bipush (pc := 10) 6 dX5_weightBy_10 (by decide) ?_
  refine V_callV_V (pc := 12) ff_X5_goOn ml_X5_183 (by first | rfl | assumption) rfl rfl (c_X5_goOn2 (OKK_K (KEq_there σ th).symm o) (by rw [pt_at]; exact hth) h2 (by rw [h3]; omega)) dX5_weightBy_12 rfl rfl (by decide) (by decide) (Nat.le_of_ble_eq_true rfl) ?_
  rw [pt_at, itr_K (KEq_there σ th)]
  refine V_aload_n (pc := 15) dX5_weightBy_15 rfl ?_
  refine V_bipush (pc := 16) 63 dX5_weightBy_16 (by decide) ?_
  refine P_X5_there (pc := 18) (by first | rfl | assumption) fl_X5_40 dX5_weightBy_18 ?_
  rw [pt_stM (by decide), pt_pt, pt_id ht]
  refine V_aload_n (pc := 21) dX5_weightBy_21 rfl ?_
  refine V_iconst (pc := 22) 1 dX5_weightBy_22 (by decide) ?_
  refine V_iload_n (pc := 23) dX5_weightBy_23 rfl ?_
  refine V_callV_I (pc := 24) ff_X5_weightOn ml_X5_143 (by first | rfl | assumption) rfl rfl (c_X5_weightOn (by decide) (by omega)) dX5_weightBy_24 rfl rfl (by decide) (by decide) (Nat.le_of_ble_eq_true rfl) ?_
  rw [pM_stM]
  exact hret _ _ _ _ dX5_weightBy_27 (rI_mk (wtF_cong (PEq_itr o h1 th 6) (by omega) 5 (by omega)) ⟨_, rfl⟩)
def iN (y : Int32) : Nat := y.toBitVec.toNat
theorem nI_iN (y : Int32) : nI (iN y) = y := by
  apply Int32.toBitVec_inj.1
  apply BitVec.eq_of_toNat_eq
  show (BitVec.ofNat 32 y.toBitVec.toNat).toNat = y.toBitVec.toNat
  rw [BitVec.toNat_ofNat, Nat.mod_eq_of_lt y.toBitVec.isLt]
def shT (K : St) (P : Nat → Nat) (g c n : Nat) : Int := ((fct (onS n 12) * fct (K 0 1 - 1 - onS n 12) : Nat) : Int) * ((wbW K P (n ||| 1 * 2 ^ g) c : Int) - (wbW K P n c : Int))
def shF (K : St) (P : Nat → Nat) (g c : Nat) : Nat → Int
  | 0 => 0
  | n + 1 => if n.testBit g = true then shF K P g c n else shF K P g c n + shT K P g c n
theorem on_le : ∀ nG, nG ≤ 6 → ∀ n, n < 2 ^ nG → ∀ g, g < nG → n.testBit g = false → onS n 12 + 1 ≤ nG := by decide +kernel
theorem or_lt {nG n g : Nat} (h : n < 2 ^ nG) (hg : g < nG) : n ||| 1 * 2 ^ g < 2 ^ nG := Nat.or_lt_two_pow h (by rw [Nat.one_mul]; exact Nat.pow_lt_pow_right (by decide) hg)
theorem fct_le : ∀ k, k ≤ 6 → fct k ≤ 720 ∧ 0 < fct k := by decide +kernel
theorem fct5_le : ∀ k, k ≤ 5 → fct k ≤ 120 := by decide +kernel
theorem ofInt_nat (n : Nat) : Int32.ofInt (n : Int) = nI n := by
  apply Int32.toBitVec_inj.1
  show BitVec.ofInt 32 (n : Int) = BitVec.ofNat 32 n
  simp
theorem sh_add (z : Int) (o a b : Nat) : Int32.ofInt z + nI o * (nI a - nI b) = Int32.ofInt (z + (o : Int) * ((a : Int) - (b : Int))) := by
  rw [Int32.ofInt_add, Int32.ofInt_mul, Int32.ofInt_sub, ofInt_nat, ofInt_nat, ofInt_nat]
theorem wbW_le {K : St} (o : OKK K) {P : Nat → Nat} (h : OKP P) {th c : Nat} (hc : c < 5) : wbW K P th c ≤ 45 := wtF_le (OKP_itr o h th 6) hc 5 (by omega)
theorem shT_le {K : St} (o : OKK K) {P : Nat → Nat} (h : OKP P) {g c n : Nat} (hc : c < 5) (h1 : onS n 12 ≤ 5) : (shT K P g c n).natAbs ≤ 648000 := by
  have a1 := wbW_le o h (th := n ||| 1 * 2 ^ g) hc
  have a2 := wbW_le o h (th := n) hc
  have f1 := fct5_le (onS n 12) h1
  have f2 := fct5_le (K 0 1 - 1 - onS n 12) (by have := o.2.1; omega)
  unfold shT
  rw [Int.natAbs_mul]
  have b1 : ((fct (onS n 12) * fct (K 0 1 - 1 - onS n 12) : Nat) : Int).natAbs ≤ 14400 := by
    rw [Int.natAbs_natCast]
    exact Nat.mul_le_mul f1 f2
  have b2 : ((wbW K P (n ||| 1 * 2 ^ g) c : Int) - (wbW K P n c : Int)).natAbs ≤ 45 := by omega
  exact Nat.mul_le_mul b1 b2
theorem shF_le {K : St} (o : OKK K) {P : Nat → Nat} (h : OKP P) {g c : Nat} (hc : c < 5) (hg : g < K 0 1) : ∀ n, n ≤ 2 ^ K 0 1 → (shF K P g c n).natAbs ≤ n * 648000
  | 0, _ => by show (0 : Int).natAbs ≤ 0 * 648000; decide
  | n + 1, hn => by
    have ih := shF_le o h hc hg n (by omega)
    unfold shF
    rw [Nat.succ_mul]
    split
    · exact Nat.le_trans ih (Nat.le_add_right _ _)
    · rename_i hb
      have h1 := on_le (K 0 1) o.2.1 n (by omega) g hg (Bool.eq_false_iff.mpr hb)
      have h2 := shT_le o h (g := g) (n := n) hc (by have := o.2.1; omega)
      exact Nat.le_trans (Int.natAbs_add_le _ _) (Nat.add_le_add ih h2)
theorem ofInt_abs {z : Int} (h : z.natAbs < 2 ^ 31) : AbsIs (Int32.ofInt z) z.natAbs := by
  rcases Int.lt_or_le z 0 with hz | hz
  · refine Or.inl ⟨?_, ?_⟩
    · rw [Int32.lt_iff_toInt_lt, Int32.toInt_zero, Int32.toInt_ofInt_of_le (by omega) (by omega)]
      exact hz
    · rw [← ofInt_nat, ← Int32.ofInt_neg]
      congr 1
      omega
  · refine Or.inr ⟨?_, ?_⟩
    · rw [Int32.lt_iff_toInt_lt, Int32.toInt_zero, Int32.toInt_ofInt_of_le (by omega) (by omega)]
      omega
    · rw [← ofInt_nat]
      congr 1
      omega
section IR
variable {E : EE} {B : Bk} {own : String} {cc : ByteArray} {nL d : Nat} {Q : State → Prop} {pc : Nat} {lv : List (Option Value)} {st : List Value} {σ : St}
theorem V_idivR {x y : Int32} (hd : decode cc pc = .ok (.idiv, 1)) (hn : ¬ y = 0) (k : V E B own cc nL d Q (pc + 1) lv (.int (x / y) :: st) σ) : V E B own cc nL d Q pc lv (.int y :: .int x :: st) σ := fun ok H locs ls hI hl => lv_idiv ok.1 ok.2.1 hd hn (k ok H locs ls hI hl)
end IR
def shG (K : St) (P : Nat → Nat) (g c : Nat) : Nat := Nat.gcd (shF K P g c (2 ^ K 0 1)).natAbs (fct (K 0 1))
def shM (σ : St) (g c up : Nat) : Nat := if g < σ 0 1 ∧ c < σ 0 2 then (if up = 0 then fct (σ 0 1) / shG σ (pM σ 0) g c else iN (Int32.ofInt (shF σ (pM σ 0) g c (2 ^ σ 0 1)) / nI (shG σ (pM σ 0) g c))) else 4294967295
theorem shG_ok {K : St} (o : OKK K) (P : Nat → Nat) (g c : Nat) : 0 < shG K P g c ∧ shG K P g c ≤ 720 := by
  have h := fct_le (K 0 1) o.2.1
  exact ⟨Nat.gcd_pos_of_pos_right _ h.2, Nat.le_trans (Nat.le_of_dvd h.2 (Nat.gcd_dvd_right _ _)) h.1⟩
set_option maxHeartbeats 4000000 in
set_option maxRecDepth 100000 in
theorem c_X5_share {B : Bk} {σ : St} {g c up : Nat} (hg : g < 2 ^ 32) (hc : c < 2 ^ 32) (hu : up < 2) (gm : GM σ) : MC yX5_share cX5_share 7 (some .int) 6 B [.ref (B.1 0), .int (nI g), .int (nI c), .int (nI up)] σ (rI (shM σ g c up) (TR σ)) := by
  obtain ⟨o, ht, hp, hd⟩ := id gm
  obtain ⟨o0, o1, o2, o3, o4, o5⟩ := id o
  have ht64 : σ 0 20 < 64 := by omega
  refine MC_int RX5 [some (.ref (B.1 0)), some (.int (nI g)), some (.int (nI c)), some (.int (nI up)), none, none, none] 3 (by decide +kernel) rfl rfl (Nat.le_of_ble_eq_true rfl) (fun E Q hret => ?_)
  refine V_aload_n (pc := 0) dX5_share_0 rfl ?_
  refine V_iload_n (pc := 1) dX5_share_1 rfl ?_
  refine V_callV_I (pc := 2) ff_X5_isGround ml_X5_146 (by first | rfl | assumption) rfl rfl (c_X5_isGround (by first | omega | assumption | exact and1_lt _ | exact nb_p) (by first | omega | assumption | exact and1_lt _ | exact nb_p)) dX5_share_2 rfl rfl (by decide) (by decide) (Nat.le_of_ble_eq_true rfl) ?_
  refine V_ifb_eq (pc := 5) 16 dX5_share_5 (by decide) (fun h_5 => ?_) (fun h_5 => ?_)
  · skip
    refine V_iconst (pc := 16) 4294967295 dX5_share_16 (by decide) ?_
    exact hret _ _ _ _ dX5_share_17 (rI_mk (by unfold shM; rw [if_neg (by omega)]) (TR.rf σ))
  · skip
    refine V_aload_n (pc := 8) dX5_share_8 rfl ?_
    refine V_iload_n (pc := 9) dX5_share_9 rfl ?_
    refine V_callV_I (pc := 10) ff_X5_isChild ml_X5_153 (by first | rfl | assumption) rfl rfl (c_X5_isChild (by first | omega | assumption | exact and1_lt _ | exact nb_p) (by first | omega | assumption | exact and1_lt _ | exact nb_p)) dX5_share_10 rfl rfl (by decide) (by decide) (Nat.le_of_ble_eq_true rfl) ?_
    refine V_ifb_ne (pc := 13) 18 dX5_share_13 (by decide) (fun h_13 => ?_) (fun h_13 => ?_)
    · skip
      refine V_iconst (pc := 18) 0 dX5_share_18 (by decide) ?_
      refine V_istore (pc := 19) dX5_share_19 (by decide) rfl ?_
      refine V_iconst (pc := 21) 0 dX5_share_21 (by decide) ?_
      refine V_istore (pc := 22) dX5_share_22 (by decide) rfl ?_
      have L_24 : ∀ (m : Nat) (i : Nat) (z : Option Value) (T : Nat → Nat), 2 ^ σ 0 1 - i = m → i ≤ 2 ^ σ 0 1 → V E B RX5 cX5_share 7 6 Q 24 [some (.ref (B.1 0)), some (.int (nI g)), some (.int (nI c)), some (.int (nI up)), some (.int (Int32.ofInt (shF σ (pM σ 0) g c i))), some (.int (nI i)), z] [] (stM σ 1 T) := by
        intro m
        induction m using Nat.strongRecOn with
        | _ m ih =>
          intro i z T hm hi
          have h64 : 2 ^ σ 0 1 ≤ 2 ^ 6 := Nat.pow_le_pow_right (by decide) o1
          have hc1 : stM σ 1 T 0 1 = σ 0 1 := by rw [stM_o (by decide)]
          refine V_iload (pc := 24) dX5_share_24 rfl ?_
          refine V_iconst (pc := 26) 1 dX5_share_26 (by decide) ?_
          refine V_aload_n (pc := 27) dX5_share_27 rfl ?_
          refine G_X5_grounds (pc := 28) (by first | rfl | assumption) fl_X5_111 dX5_share_28 ?_
          rw [hc1]
          refine V_ishl (pc := 31) dX5_share_31 (by first | omega | assumption | exact and1_lt _ | exact nb_p) ?_
          rw [Nat.one_mul]
          refine V_icmp_ge (pc := 32) 103 dX5_share_32 (by decide) (by first | omega | assumption | exact and1_lt _ | exact nb_p) (by first | omega | assumption | exact and1_lt _ | exact nb_p) (fun h_32 => ?_) (fun h_32 => ?_)
          · skip
            have hie : i = 2 ^ σ 0 1 := by omega
            subst hie
            have hz := shF_le o hp (show c < 5 by omega) h_5 (2 ^ σ 0 1) (Nat.le_refl _)
            have hfl := fct_le (σ 0 1) o1
            have hgk := shG_ok o (pM σ 0) g c
            have hc1 : stM σ 1 T 0 1 = σ 0 1 := by rw [stM_o (by decide)]
            refine V_iload (pc := 103) dX5_share_103 rfl ?_
            refine V_aload_n (pc := 105) dX5_share_105 rfl ?_
            refine G_X5_grounds (pc := 106) (by first | rfl | assumption) fl_X5_111 dX5_share_106 ?_
            rw [hc1]
            refine V_callS_I (pc := 109) ff_X5_factorial ml_X5_216 (c_X5_factorial (by omega)) dX5_share_109 rfl rfl (by decide) (by decide) (Nat.le_of_ble_eq_true rfl) ?_
            refine V_callS_I (pc := 112) ff_X5_common ml_X5_222 (c_X5_common (ofInt_abs (by omega)) (by omega) (by omega)) dX5_share_112 rfl rfl (by decide) (by decide) (Nat.le_of_ble_eq_true rfl) ?_
            refine V_istore (pc := 115) dX5_share_115 (by decide) rfl ?_
            refine V_iload_n (pc := 117) dX5_share_117 rfl ?_
            refine V_if_eq (pc := 118) 129 dX5_share_118 (by decide) (by first | omega | assumption | exact and1_lt _ | exact nb_p) (fun h_118 => ?_) (fun h_118 => ?_)
            · skip
              refine V_aload_n (pc := 129) dX5_share_129 rfl ?_
              refine G_X5_grounds (pc := 130) (by first | rfl | assumption) fl_X5_111 dX5_share_130 ?_
              rw [hc1]
              refine V_callS_I (pc := 133) ff_X5_factorial ml_X5_216 (c_X5_factorial (by omega)) dX5_share_133 rfl rfl (by decide) (by decide) (Nat.le_of_ble_eq_true rfl) ?_
              refine V_iload (pc := 136) dX5_share_136 rfl ?_
              refine V_idiv (pc := 138) dX5_share_138 (by omega) hgk.1 (by exact Nat.lt_of_le_of_lt hgk.2 (by decide)) ?_
              exact hret _ _ _ _ dX5_share_139 (by first | exact (rI_mk (by unfold shM; rw [if_pos ⟨h_5, h_13⟩, if_pos (by omega)]; rfl) ⟨_, rfl⟩) | (refine ⟨?_, ⟨_, rfl⟩⟩; unfold shM; rw [if_pos ⟨h_5, h_13⟩, if_neg (by omega), nI_iN]; rfl))
            · skip
              refine V_iload (pc := 121) dX5_share_121 rfl ?_
              refine V_iload (pc := 123) dX5_share_123 rfl ?_
              refine V_idivR (pc := 125) dX5_share_125 (nI_ne0 hgk.1 (Nat.lt_of_le_of_lt hgk.2 (by decide))) ?_
              refine V_goto (pc := 126) 139 dX5_share_126 (by decide) ?_
              exact hret _ _ _ _ dX5_share_139 (by first | exact (rI_mk (by unfold shM; rw [if_pos ⟨h_5, h_13⟩, if_pos (by omega)]; rfl) ⟨_, rfl⟩) | (refine ⟨?_, ⟨_, rfl⟩⟩; unfold shM; rw [if_pos ⟨h_5, h_13⟩, if_neg (by omega), nI_iN]; rfl))
          · skip
            refine V_iload (pc := 35) dX5_share_35 rfl ?_
            refine V_iload_n (pc := 37) dX5_share_37 rfl ?_
            refine V_callS_I (pc := 38) ff_X5_has ml_X5_80 (c_X5_has (by first | omega | assumption | exact and1_lt _ | exact nb_p) (by first | omega | assumption | exact and1_lt _ | exact nb_p)) dX5_share_38 rfl rfl (by decide) (by decide) (Nat.le_of_ble_eq_true rfl) ?_
            refine V_ifb_ne (pc := 41) 97 dX5_share_41 (by decide) (fun h_41 => ?_) (fun h_41 => ?_)
            · skip
              refine V_iinc (pc := 97) 1 dX5_share_97 (by decide) rfl (by decide) rfl ?_
              refine V_goto (pc := 100) 24 dX5_share_100 (by decide) ?_
              have e := fun T2 => ih _ (by omega) (i + 1) z T2 rfl (by omega)
              have e2 := fun z2 T2 => ih _ (by omega) (i + 1) z2 T2 rfl (by omega)
              unfold shF at e e2
              first | (rw [if_pos h_41] at e; exact e _) | (simp only [if_neg h_41] at e2; exact e2 _ _)
            · skip
              have hon := on_le (σ 0 1) o1 i (by omega) g h_5 (Bool.eq_false_iff.mpr h_41)
              have hor := or_lt (g := g) (show i < 2 ^ σ 0 1 by omega) h_5
              refine V_iload (pc := 44) dX5_share_44 rfl ?_
              refine V_callS_I (pc := 46) ff_X5_ones ml_X5_213 (c_X5_ones (by first | omega | assumption | exact and1_lt _ | exact nb_p)) dX5_share_46 rfl rfl (by decide) (by decide) (Nat.le_of_ble_eq_true rfl) ?_
              refine V_callS_I (pc := 49) ff_X5_factorial ml_X5_216 (c_X5_factorial (by omega)) dX5_share_49 rfl rfl (by decide) (by decide) (Nat.le_of_ble_eq_true rfl) ?_
              refine V_aload_n (pc := 52) dX5_share_52 rfl ?_
              refine G_X5_grounds (pc := 53) (by first | rfl | assumption) fl_X5_111 dX5_share_53 ?_
              rw [hc1]
              refine V_iconst (pc := 56) 1 dX5_share_56 (by decide) ?_
              refine V_isub (pc := 57) dX5_share_57 (by omega) ?_
              refine V_iload (pc := 58) dX5_share_58 rfl ?_
              refine V_callS_I (pc := 60) ff_X5_ones ml_X5_213 (c_X5_ones (by first | omega | assumption | exact and1_lt _ | exact nb_p)) dX5_share_60 rfl rfl (by decide) (by decide) (Nat.le_of_ble_eq_true rfl) ?_
              refine V_isub (pc := 63) dX5_share_63 (by omega) ?_
              refine V_callS_I (pc := 64) ff_X5_factorial ml_X5_216 (c_X5_factorial (by omega)) dX5_share_64 rfl rfl (by decide) (by decide) (Nat.le_of_ble_eq_true rfl) ?_
              refine V_imul (pc := 67) dX5_share_67 ?_
              refine V_istore (pc := 68) dX5_share_68 (by decide) rfl ?_
              refine V_iload (pc := 70) dX5_share_70 rfl ?_
              refine V_iload (pc := 72) dX5_share_72 rfl ?_
              refine V_aload_n (pc := 74) dX5_share_74 rfl ?_
              refine V_iload (pc := 75) dX5_share_75 rfl ?_
              refine V_iconst (pc := 77) 1 dX5_share_77 (by decide) ?_
              refine V_iload_n (pc := 78) dX5_share_78 rfl ?_
              refine V_ishl (pc := 79) dX5_share_79 (by first | omega | assumption | exact and1_lt _ | exact nb_p) ?_
              refine V_ior (pc := 80) dX5_share_80 ?_
              refine V_iload_n (pc := 81) dX5_share_81 rfl ?_
              refine V_callV_rI (pc := 82) ff_X5_weightBy ml_X5_219 (by first | rfl | assumption) rfl rfl (c_X5_weightBy (T := T) (by omega) h_13 gm) dX5_share_82 rfl rfl (by decide) (by decide) (Nat.le_of_ble_eq_true rfl) (fun u1 hu1 => ?_)
              obtain ⟨T1, rfl⟩ := hu1
              refine V_aload_n (pc := 85) dX5_share_85 rfl ?_
              refine V_iload (pc := 86) dX5_share_86 rfl ?_
              refine V_iload_n (pc := 88) dX5_share_88 rfl ?_
              refine V_callV_rI (pc := 89) ff_X5_weightBy ml_X5_219 (by first | rfl | assumption) rfl rfl (c_X5_weightBy (T := T1) (by omega) h_13 gm) dX5_share_89 rfl rfl (by decide) (by decide) (Nat.le_of_ble_eq_true rfl) (fun u2 hu2 => ?_)
              obtain ⟨T2, rfl⟩ := hu2
              refine V_isubR (pc := 92) dX5_share_92 ?_
              refine V_imulR (pc := 93) dX5_share_93 ?_
              refine V_iaddR (pc := 94) dX5_share_94 ?_
              rw [sh_add]
              refine V_istore (pc := 95) dX5_share_95 (by decide) rfl ?_
              refine V_iinc (pc := 97) 1 dX5_share_97 (by decide) rfl (by decide) rfl ?_
              refine V_goto (pc := 100) 24 dX5_share_100 (by decide) ?_
              have e := fun T2 => ih _ (by omega) (i + 1) z T2 rfl (by omega)
              have e2 := fun z2 T2 => ih _ (by omega) (i + 1) z2 T2 rfl (by omega)
              unfold shF at e e2
              first | (rw [if_pos h_41] at e; exact e _) | (simp only [if_neg h_41] at e2; exact e2 _ _)
      have e := L_24 _ 0 none (pM σ 1) rfl (Nat.zero_le _)
      rw [stM_self] at e
      exact e
    · skip
      refine V_iconst (pc := 16) 4294967295 dX5_share_16 (by decide) ?_
      exact hret _ _ _ _ dX5_share_17 (rI_mk (by unfold shM; rw [if_neg (by omega)]) (TR.rf σ))
