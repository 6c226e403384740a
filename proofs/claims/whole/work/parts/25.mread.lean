/-! the whole text, a coast: the model -/
theorem td_ge (s : St) (z al : Nat) : s 0 18 ≤ (tdM s z al).2 0 18 := by
  by_cases c : tdC s z al
  · rw [tdM_t c]
    show s 0 18 ≤ pt s 0 18 (s 0 18 + 1) 0 18
    rw [pt_at]; omega
  · rw [tdM_f c]
    show s 0 18 ≤ (if s 0 19 = 4294967287 then pt s 0 19 (s 0 18) else s) 0 18
    split
    · rw [pt_ne (by omega)]; exact Nat.le_refl _
    · exact Nat.le_refl _
theorem rpT_k {σ : St} (tx : TX σ) (hl : σ 0 18 < σ 0 17) : AG σ (rpT σ) ∧ TX (rpT σ) ∧ σ 0 18 < rpT σ 0 18 := by
  have t0 := TX_at tx hl
  refine ⟨((AG.pt (by omega)).tr (AG.td _ _ _)).tr ((AG.pt (by omega)).tr (AG.pt (by omega))), TX_pt (TX_pt (TX_td t0) (by omega) (by omega)) (by omega) (by omega), ?_⟩
  have h := td_ge (rg0 σ) 48 31
  rw [show rg0 σ 0 18 = σ 0 18 + 1 from pt_at _ _ _ _] at h
  unfold rpT
  rw [pt_ne (by omega), pt_ne (by omega)]
  exact h
theorem rpG_k {σ : St} (tx : TX σ) (hl : σ 0 18 < σ 0 17) : AG σ (rpG σ) ∧ TX (rpG σ) ∧ σ 0 18 < rpG σ 0 18 := by
  have t0 := TX_at tx hl
  refine ⟨((((AG.pt (by omega)).tr (AG.td _ _ _)).tr ((AG.pt (by omega)).tr (AG.td _ _ _))).tr ((AG.pt (by omega)).tr (AG.td _ _ _))).tr (((AG.pt (by omega)).tr (AG.pt (by omega))).tr (AG.pt (by omega))), TX_pt (TX_pt (TX_pt (TX_td (TX_pt (TX_td (TX_pt (TX_td t0) (by omega) (by omega))) (by omega) (by omega))) (by omega) (by omega)) (by omega) (by omega)) (by omega) (by omega), ?_⟩
  have h1 := td_ge (rg0 σ) 97 (4095 &&& (σ 0 15 ^^^ 4294967295))
  have h2 := td_ge (pt (rg1 σ).2 8 (3 * σ 0 13) (rg1 σ).1) 48 31
  have h3 := td_ge (pt (rg2 σ).2 8 (3 * σ 0 13 + 1) (rg2 σ).1) 48 15
  rw [show rg0 σ 0 18 = σ 0 18 + 1 from pt_at _ _ _ _] at h1
  rw [pt_ne (by omega)] at h2 h3
  unfold rpG
  rw [pt_ne (by omega), pt_ne (by omega), pt_ne (by omega)]
  exact Nat.lt_of_lt_of_le (Nat.lt_of_lt_of_le (Nat.lt_of_succ_le h1) h2) h3
theorem rpC_k {σ : St} (tx : TX σ) (hl : σ 0 18 < σ 0 17) : AG σ (rpC σ) ∧ TX (rpC σ) ∧ σ 0 18 < rpC σ 0 18 := by
  have t0 := TX_at tx hl
  refine ⟨(((AG.pt (by omega)).tr (AG.td _ _ _)).tr ((AG.pt (by omega)).tr (AG.td _ _ _))).tr ((AG.pt (by omega)).tr (AG.pt (by omega))), TX_pt (TX_pt (TX_td (TX_pt (TX_td t0) (by omega) (by omega))) (by omega) (by omega)) (by omega) (by omega), ?_⟩
  have h1 := td_ge (rg0 σ) 97 4095
  have h2 := td_ge (pt (rc1 σ).2 9 (2 * σ 0 14) (rc1 σ).1) 48 15
  rw [show rg0 σ 0 18 = σ 0 18 + 1 from pt_at _ _ _ _] at h1
  rw [pt_ne (by omega)] at h2
  unfold rpC
  rw [pt_ne (by omega), pt_ne (by omega)]
  exact Nat.lt_of_lt_of_le (Nat.lt_of_succ_le h1) h2
theorem st1 {K : St} {x : Nat} : stp 1 x K = if x = 84 ∧ K 0 0 < 4 then some (2, K) else if x = 71 ∧ K 0 1 < 6 then some (3, K) else if x = 67 ∧ K 0 2 < 5 then some (6, K) else none := rfl
theorem rp_ok {σ K : St} {len : Nat} {tx : Nat → Nat} (hr : RM σ K) (ok : OKT K) (hf : σ 0 19 = 4294967287) (hlen : σ 0 17 = len) (htx : σ 10 = tx) (hi : σ 0 18 < len) (ht : TX σ) : AG σ (rpM σ (tx (σ 0 18))) ∧ TX (rpM σ (tx (σ 0 18))) ∧ PO tx len (rs tx (len - σ 0 18) 1 (σ 0 18) K) (rpM σ (tx (σ 0 18))) ∧ (rpM σ (tx (σ 0 18)) 0 19 = 4294967287 → σ 0 18 < rpM σ (tx (σ 0 18)) 0 18) := by
  have h48 : len ≤ 48 := by rw [← hlen]; exact ht.1
  have hl : σ 0 18 < σ 0 17 := by omega
  obtain ⟨n, hn⟩ : ∃ n, len - σ 0 18 = n + 1 := ⟨len - σ 0 18 - 1, by omega⟩
  have hn2 : len - (σ 0 18 + 1) = n := by omega
  unfold rpM
  rw [hn, hr.1, hr.2.1, hr.2.2.1]
  by_cases c1 : tx (σ 0 18) = 84 ∧ K 0 0 < 4
  · rw [if_pos c1, rs_some (by rw [st1, if_pos c1]), ← hn2]
    have h := rpT_k ht hl
    exact ⟨h.1, h.2.1, part_T hr ok hf hlen h48 htx hi c1.2, fun _ => h.2.2⟩
  · by_cases c2 : tx (σ 0 18) = 71 ∧ K 0 1 < 6
    · rw [if_neg c1, if_pos c2, rs_some (by rw [st1, if_neg c1, if_pos c2]), ← hn2]
      have h := rpG_k ht hl
      exact ⟨h.1, h.2.1, part_G hr ok hf hlen h48 htx hi c2.2, fun _ => h.2.2⟩
    · by_cases c3 : tx (σ 0 18) = 67 ∧ K 0 2 < 5
      · rw [if_neg c1, if_neg c2, if_pos c3, rs_some (by rw [st1, if_neg c1, if_neg c2, if_pos c3]), ← hn2]
        have h := rpC_k ht hl
        exact ⟨h.1, h.2.1, part_C hr ok hf hlen h48 htx hi c3.2, fun _ => h.2.2⟩
      · rw [if_neg c1, if_neg c2, if_neg c3, rs_none (by rw [st1, if_neg c1, if_neg c2, if_neg c3])]
        obtain ⟨t1, t2, t3, t4⟩ := ht
        refine ⟨AG.pt (by omega), ⟨by rw [pt_ne (by omega)]; exact t1, fun i hi => by rw [pt_ne (by omega)]; exact t2 i hi, by rw [pt_ne (by omega)]; exact t3, by rw [pt_at]; exact Or.inr t3⟩, Or.inr ⟨by rw [pt_at]; omega, by rw [pt_at]⟩, fun q => ?_⟩
        rw [pt_at] at q
        omega
theorem rs_lt (tx : Nat → Nat) : ∀ (n d i : Nat) (K : St), (rs tx n d i K).1 = 4294967287 ∨ (rs tx n d i K).1 ≤ i + n
  | 0, d, i, K => by
    unfold rs
    split
    · exact Or.inl rfl
    · exact Or.inr (Nat.le_refl _)
  | n + 1, d, i, K => by
    cases h : stp d (tx i) K with
    | none => rw [rs_none h]; exact Or.inr (Nat.le_add_right _ _)
    | some q =>
      obtain ⟨d', K'⟩ := q
      rw [rs_some h]
      rcases rs_lt tx n d' (i + 1) K' with q | q
      · exact Or.inl q
      · exact Or.inr (by omega)
def rdR (σ : St) : Nat × St := rs (σ 10) (σ 0 17) 0 0 K00
def rdP (σ : St) : Option Value → St → Prop := fun v u => v = some (.int (nI (rdR σ).1)) ∧ AG σ u ∧ ((rdR σ).1 = 4294967287 → RM u (rdR σ).2 ∧ OKT (rdR σ).2)
def rd0 (σ : St) : St := pt (pt (pt (pt (pt (pt σ 0 18 0) 0 19 4294967287) 0 12 0) 0 13 0) 0 14 0) 0 15 0
def TXz (σ : St) : Prop := σ 0 17 ≤ 48 ∧ ∀ i, i < 48 → σ 10 i < 256
theorem rd0_k {σ : St} (ht : TXz σ) : AG σ (rd0 σ) ∧ TX (rd0 σ) ∧ RM (rd0 σ) K00 ∧ rd0 σ 0 19 = 4294967287 := by
  have e19 : rd0 σ 0 19 = 4294967287 := by unfold rd0; rw [pt_ne (by omega), pt_ne (by omega), pt_ne (by omega), pt_ne (by omega), pt_at]
  refine ⟨((((AG.pt (by omega)).tr (AG.pt (by omega))).tr (AG.pt (by omega))).tr ((AG.pt (by omega)).tr (AG.pt (by omega)))).tr (AG.pt (by omega)), ?_, ?_, e19⟩
  · obtain ⟨t1, t2⟩ := ht
    refine ⟨?_, fun i hi => ?_, ?_, Or.inl e19⟩
    · unfold rd0; rw [pt_ne (by omega), pt_ne (by omega), pt_ne (by omega), pt_ne (by omega), pt_ne (by omega), pt_ne (by omega)]; exact t1
    · unfold rd0; rw [pt_ne (by omega), pt_ne (by omega), pt_ne (by omega), pt_ne (by omega), pt_ne (by omega), pt_ne (by omega)]; exact t2 i hi
    · unfold rd0; rw [pt_ne (by omega), pt_ne (by omega), pt_ne (by omega), pt_ne (by omega), pt_ne (by omega), pt_at]; decide
  · refine ⟨?_, ?_, ?_, fun i h => absurd h (Nat.not_lt_zero _), fun i h => absurd h (Nat.not_lt_zero _), fun i h => absurd h (Nat.not_lt_zero _), ?_⟩
    · unfold rd0; rw [pt_ne (by omega), pt_ne (by omega), pt_ne (by omega), pt_at]; rfl
    · unfold rd0; rw [pt_ne (by omega), pt_ne (by omega), pt_at]; rfl
    · unfold rd0; rw [pt_ne (by omega), pt_at]; rfl
    · unfold rd0; rw [pt_at]; rfl
theorem OKT_0 : OKT K00 := ⟨⟨Nat.zero_le _, Nat.zero_le _, Nat.zero_le _, fun i h => absurd h (Nat.not_lt_zero _), fun i h => absurd h (Nat.not_lt_zero _), fun i h => absurd h (Nat.not_lt_zero _)⟩, fun i h => absurd h (Nat.not_lt_zero _), fun i j h => absurd h (Nat.not_lt_zero _)⟩
theorem RM_at {σ K : St} {x : Nat} (h : RM σ K) : RM (pt σ 0 18 x) K := by
  obtain ⟨r12, r13, r14, r7, r8, r9, r15⟩ := h
  refine ⟨by rw [pt_ne (by omega)]; exact r12, by rw [pt_ne (by omega)]; exact r13, by rw [pt_ne (by omega)]; exact r14, fun i hi => by rw [pt_ne (by omega)]; exact r7 i hi, fun g hg => by rw [pt_ne (by omega), pt_ne (by omega), pt_ne (by omega)]; exact r8 g hg, fun g hg => by rw [pt_ne (by omega), pt_ne (by omega)]; exact r9 g hg, by rw [pt_ne (by omega)]; exact r15⟩
set_option maxHeartbeats 4000000 in
set_option maxRecDepth 100000 in
theorem c_X5_readText {B : Bk} {σ : St} (tx : TXz σ) : MC yX5_readText cX5_readText 1 (some .int) 3 B [.ref (B.1 0)] σ (rdP σ) := by
  obtain ⟨k1, k2, k3, k4⟩ := rd0_k tx
  have e17 : rd0 σ 0 17 = σ 0 17 := k1 0 17 (by omega) (by omega) (by omega) (by omega)
  have e10 : rd0 σ 10 = σ 10 := funext fun i => k1 10 i (by omega) (by omega) (by omega) (by omega)
  refine MC_int RX5 [some (.ref (B.1 0))] 0 (by decide +kernel) rfl rfl (Nat.le_of_ble_eq_true rfl) (fun E Q hret => ?_)
  have J_x : ∀ (u : St), AG σ u → u 0 19 ≤ 48 → (rdR σ).1 = u 0 19 → V E B RX5 cX5_readText 1 3 Q 56 [some (.ref (B.1 0))] [] u := by
    intro u hA hf hR
    refine V_aload_n (pc := 56) dX5_readText_56 rfl ?_
    refine G_X5_faultAt (pc := 57) (by first | rfl | assumption) fl_X5_72 dX5_readText_57 ?_
    refine V_bipush (pc := 60) 4294967287 dX5_readText_60 (by decide) ?_
    refine V_icmp_ne (pc := 62) 92 dX5_readText_62 (by decide) (by omega) (by omega) (fun h_62 => ?_) (fun h_62 => absurd h_62 (by omega))
    refine V_aload_n (pc := 92) dX5_readText_92 rfl ?_
    refine G_X5_faultAt (pc := 93) (by first | rfl | assumption) fl_X5_72 dX5_readText_93 ?_
    exact hret _ _ _ _ dX5_readText_96 ⟨by rw [hR], hA, fun q => absurd (hR.symm.trans q) (by omega)⟩
  refine V_aload_n (pc := 0) dX5_readText_0 rfl ?_
  refine V_iconst (pc := 1) 0 dX5_readText_1 (by decide) ?_
  refine P_X5_at (pc := 2) (by first | rfl | assumption) fl_X5_75 dX5_readText_2 ?_
  refine V_aload_n (pc := 5) dX5_readText_5 rfl ?_
  refine V_bipush (pc := 6) 4294967287 dX5_readText_6 (by decide) ?_
  refine P_X5_faultAt (pc := 8) (by first | rfl | assumption) fl_X5_72 dX5_readText_8 ?_
  refine V_aload_n (pc := 11) dX5_readText_11 rfl ?_
  refine V_iconst (pc := 12) 0 dX5_readText_12 (by decide) ?_
  refine P_X5_readTides (pc := 13) (by first | rfl | assumption) fl_X5_84 dX5_readText_13 ?_
  refine V_aload_n (pc := 16) dX5_readText_16 rfl ?_
  refine V_iconst (pc := 17) 0 dX5_readText_17 (by decide) ?_
  refine P_X5_readGrounds (pc := 18) (by first | rfl | assumption) fl_X5_87 dX5_readText_18 ?_
  refine V_aload_n (pc := 21) dX5_readText_21 rfl ?_
  refine V_iconst (pc := 22) 0 dX5_readText_22 (by decide) ?_
  refine P_X5_readChildren (pc := 23) (by first | rfl | assumption) fl_X5_90 dX5_readText_23 ?_
  refine V_aload_n (pc := 26) dX5_readText_26 rfl ?_
  refine V_iconst (pc := 27) 0 dX5_readText_27 (by decide) ?_
  refine P_X5_readCells (pc := 28) (by first | rfl | assumption) fl_X5_93 dX5_readText_28 ?_
  rw [show pt (pt (pt (pt (pt (pt σ 0 18 0) 0 19 4294967287) 0 12 0) 0 13 0) 0 14 0) 0 15 0 = rd0 σ from rfl]
  refine V_aload_n (pc := 31) dX5_readText_31 rfl ?_
  refine G_X5_length (pc := 32) (by first | rfl | assumption) fl_X5_69 dX5_readText_32 ?_
  rw [e17]
  refine V_if_eq (pc := 35) 49 dX5_readText_35 (by decide) (by have := tx.1; omega) (fun h_35 => ?_) (fun h_35 => ?_)
  · skip
    refine V_iconst (pc := 49) 0 dX5_readText_49 (by decide) ?_
    exact hret _ _ _ _ dX5_readText_50 (by have hz : (rdR σ).1 = 0 := (by first | (unfold rdR; rw [h_35]; rfl) | (unfold rdR; obtain ⟨n, hn⟩ : ∃ n, σ 0 17 = n + 1 := ⟨σ 0 17 - 1, by omega⟩; rw [hn, rs_none (by unfold stp; rw [if_pos rfl, if_neg (by rw [← e10]; exact h_46)])])); exact ⟨by rw [hz], k1, fun q => absurd (hz.symm.trans q) (by decide)⟩)
  · skip
    refine V_aload_n (pc := 38) dX5_readText_38 rfl ?_
    refine G_X5_text (pc := 39) (by first | rfl | assumption) fl_X5_37 dX5_readText_39 ?_
    refine V_iconst (pc := 42) 0 dX5_readText_42 (by decide) ?_
    refine V_iald (pc := 43) (by first | rfl | assumption) (by first | omega | assumption | exact and1_lt _ | exact nb_p) dX5_readText_43 ?_
    refine V_bipush (pc := 44) 83 dX5_readText_44 (by decide) ?_
    refine V_icmp_eq (pc := 46) 51 dX5_readText_46 (by decide) (by have := k2.2.1 0 (by omega); omega) (by omega) (fun h_46 => ?_) (fun h_46 => ?_)
    · skip
      refine V_aload_n (pc := 51) dX5_readText_51 rfl ?_
      refine V_iconst (pc := 52) 1 dX5_readText_52 (by decide) ?_
      refine P_X5_at (pc := 53) (by first | rfl | assumption) fl_X5_75 dX5_readText_53 ?_
      have L_56 : ∀ (m : Nat) (u K : St), σ 0 17 - u 0 18 = m → AG σ u → TX u → u 0 19 = 4294967287 → RM u K → OKT K → u 0 18 ≤ σ 0 17 → rdR σ = rs (σ 10) (σ 0 17 - u 0 18) 1 (u 0 18) K → V E B RX5 cX5_readText 1 3 Q 56 [some (.ref (B.1 0))] [] (u) := by
        intro m
        induction m using Nat.strongRecOn with
        | _ m ih =>
          intro u K hm hA ht hf hr ok hi hR
          have u17 : u 0 17 = σ 0 17 := hA 0 17 (by omega) (by omega) (by omega) (by omega)
          have u10 : u 10 = σ 10 := funext fun i => hA 10 i (by omega) (by omega) (by omega) (by omega)
          obtain ⟨r12, r13, r14, -⟩ := id hr
          obtain ⟨⟨o0, o1, o2, -⟩, -⟩ := id ok
          have t48 := tx.1
          refine V_aload_n (pc := 56) dX5_readText_56 rfl ?_
          refine G_X5_faultAt (pc := 57) (by first | rfl | assumption) fl_X5_72 dX5_readText_57 ?_
          refine V_bipush (pc := 60) 4294967287 dX5_readText_60 (by decide) ?_
          refine V_icmp_ne (pc := 62) 92 dX5_readText_62 (by decide) (by omega) (by omega) (fun h_62 => absurd h_62 (by omega)) (fun h_62 => ?_)
          refine V_aload_n (pc := 65) dX5_readText_65 rfl ?_
          refine G_X5_at (pc := 66) (by first | rfl | assumption) fl_X5_75 dX5_readText_66 ?_
          refine V_aload_n (pc := 69) dX5_readText_69 rfl ?_
          refine G_X5_length (pc := 70) (by first | rfl | assumption) fl_X5_69 dX5_readText_70 ?_
          refine V_icmp_ge (pc := 73) 92 dX5_readText_73 (by decide) (by omega) (by omega) (fun h_73 => ?_) (fun h_73 => ?_)
          · skip
            refine V_aload_n (pc := 92) dX5_readText_92 rfl ?_
            refine G_X5_faultAt (pc := 93) (by first | rfl | assumption) fl_X5_72 dX5_readText_93 ?_
            exact hret _ _ _ _ dX5_readText_96 ⟨by rw [hf, hR, show σ 0 17 - u 0 18 = 0 by omega]; rfl, hA, fun _ => by rw [hR, show σ 0 17 - u 0 18 = 0 by omega]; exact ⟨hr, ok⟩⟩
          · skip
            refine V_aload_n (pc := 76) dX5_readText_76 rfl ?_
            refine V_aload_n (pc := 77) dX5_readText_77 rfl ?_
            refine G_X5_text (pc := 78) (by first | rfl | assumption) fl_X5_37 dX5_readText_78 ?_
            refine V_aload_n (pc := 81) dX5_readText_81 rfl ?_
            refine G_X5_at (pc := 82) (by first | rfl | assumption) fl_X5_75 dX5_readText_82 ?_
            refine V_iald (pc := 85) (by first | rfl | assumption) (by first | omega | assumption | exact and1_lt _ | exact nb_p) dX5_readText_85 ?_
            refine V_callV_V (pc := 86) ff_X5_readPart ml_X5_96 (by first | rfl | assumption) rfl rfl (c_X5_readPart (ht.2.1 _ (by omega)) (by omega) (by omega) (by omega) ht (by omega)) dX5_readText_86 rfl rfl (by decide) (by decide) (Nat.le_of_ble_eq_true rfl) ?_
            refine V_goto (pc := 89) 56 dX5_readText_89 (by decide) ?_
            have e := rp_ok (len := σ 0 17) hr ok hf u17 u10 (by omega) ht
            rw [← u10] at e
            obtain ⟨a1, a2, a3, a4⟩ := e
            rcases a3 with ⟨b1, K', b2, b3, b4, b5⟩ | ⟨b1, b2⟩
            · have := a4 b1
              exact ih _ (by omega) _ K' rfl (hA.tr a1) a2 b1 b2 b3 b4 (by rw [hR, ← u10]; exact b5)
            · exact J_x _ (hA.tr a1) b1 (by rw [hR, ← u10]; exact b2)
      exact L_56 _ (pt (rd0 σ) 0 18 1) K00 rfl (k1.tr (AG.pt (by omega))) ⟨by rw [pt_ne (by omega)]; exact k2.1, fun i hi => by rw [pt_ne (by omega)]; exact k2.2.1 i hi, by rw [pt_at]; decide, by rw [pt_ne (by omega)]; exact k2.2.2.2⟩ (by rw [pt_ne (by omega)]; exact k4) (RM_at k3) OKT_0 (by rw [pt_at]; omega) (by
        rw [pt_at]
        unfold rdR
        obtain ⟨n, hn⟩ : ∃ n, σ 0 17 = n + 1 := ⟨σ 0 17 - 1, by omega⟩
        rw [hn, rs_some (d' := 1) (K' := K00) (by unfold stp; rw [if_pos rfl, if_pos (by rw [← e10]; exact h_46)]), Nat.add_sub_cancel])
    · skip
      refine V_iconst (pc := 49) 0 dX5_readText_49 (by decide) ?_
      exact hret _ _ _ _ dX5_readText_50 (by have hz : (rdR σ).1 = 0 := (by first | (unfold rdR; rw [h_35]; rfl) | (unfold rdR; obtain ⟨n, hn⟩ : ∃ n, σ 0 17 = n + 1 := ⟨σ 0 17 - 1, by omega⟩; rw [hn, rs_none (by unfold stp; rw [if_pos rfl, if_neg (by rw [← e10]; exact h_46)])])); exact ⟨by rw [hz], k1, fun q => absurd (hz.symm.trans q) (by decide)⟩)
set_option maxHeartbeats 4000000 in
set_option maxRecDepth 100000 in
theorem c_X5_fault {B : Bk} {σ : St} (tx : TXz σ) : MC yX5_fault cX5_fault 1 (some .int) 4 B [.ref (B.1 0)] σ (rI (rdR σ).1 (AG σ)) := by
  refine MC_int RX5 [some (.ref (B.1 0))] 0 (by decide +kernel) rfl rfl (Nat.le_of_ble_eq_true rfl) (fun E Q hret => ?_)
  refine V_aload_n (pc := 0) dX5_fault_0 rfl ?_
  refine V_callV (pc := 1) ff_X5_readText ml_X5_104 (by first | rfl | assumption) rfl rfl (c_X5_readText (by assumption)) dX5_fault_1 rfl rfl (by decide) (by decide) (Nat.le_of_ble_eq_true rfl) (fun v u hu => ?_)
  obtain ⟨rfl, hA, -⟩ := hu
  simp only [Option.toList, List.cons_append, List.nil_append]
  exact hret _ _ _ _ dX5_fault_4 ⟨rfl, hA⟩
def zr (s : St) (n : Nat) : St := fun k j => if k = 6 ∧ j < n then 0 else s k j
theorem zr_0 (s : St) : zr s 0 = s := by
  funext k j
  unfold zr
  rw [if_neg (by omega)]
theorem zr_s (s : St) (n : Nat) : pt (zr s n) 6 n 0 = zr s (n + 1) := by
  funext k j
  simp only [pt, zr]
  by_cases h : k = 6 ∧ j = n
  · rw [if_pos h, if_pos (by omega)]
  · rw [if_neg h]
    by_cases h2 : k = 6 ∧ j < n
    · rw [if_pos h2, if_pos (by omega)]
    · rw [if_neg h2, if_neg (by omega)]
theorem zr_o {s : St} {n k : Nat} (h : k ≠ 6) : zr s n k = s k := by
  funext j
  simp [zr, h]
def gc_ (s : St) (n : Nat) : St := fun k j => if k = 2 ∧ j < n then s 8 (3 * j) else if k = 3 ∧ j < n then s 8 (3 * j + 1) else if k = 4 ∧ j < n then s 8 (3 * j + 2) else s k j
theorem gc_0 (s : St) : gc_ s 0 = s := by
  funext k j
  unfold gc_
  rw [if_neg (by omega), if_neg (by omega), if_neg (by omega)]
theorem gc_o {s : St} {n k : Nat} (h : k ≠ 2) (h3 : k ≠ 3) (h4 : k ≠ 4) : gc_ s n k = s k := by
  funext j
  simp [gc_, h, h3, h4]
theorem gc_s (s : St) (n : Nat) : pt (pt (pt (gc_ s n) 2 n (s 8 (3 * n))) 3 n (s 8 (3 * n + 1))) 4 n (s 8 (3 * n + 2)) = gc_ s (n + 1) := by
  funext k j
  simp only [pt, gc_]
  by_cases e : j = n
  · subst e
    by_cases h2 : k = 2
    · subst h2; simp
    · by_cases h3 : k = 3
      · subst h3; simp
      · by_cases h4 : k = 4
        · subst h4; simp
        · simp [h2, h3, h4]
  · have e2 : (j < n + 1) = (j < n) := by apply propext; omega
    simp only [e, and_false, if_false, e2]
def cc_ (s : St) (n : Nat) : St := fun k j => if k = 6 ∧ j < n then s 9 (2 * j) else if k = 5 ∧ j < n then s 9 (2 * j + 1) else s k j
theorem cc_0 (s : St) : cc_ s 0 = s := by
  funext k j
  unfold cc_
  rw [if_neg (by omega), if_neg (by omega)]
theorem cc_o {s : St} {n k : Nat} (h : k ≠ 6) (h3 : k ≠ 5) : cc_ s n k = s k := by
  funext j
  simp [cc_, h, h3]
theorem cc_s (s : St) (n : Nat) : pt (pt (cc_ s n) 6 n (s 9 (2 * n))) 5 n (s 9 (2 * n + 1)) = cc_ s (n + 1) := by
  funext k j
  simp only [pt, cc_]
  by_cases e : j = n
  · subst e
    by_cases h2 : k = 6
    · subst h2; simp
    · by_cases h3 : k = 5
      · subst h3; simp
      · simp [h2, h3]
  · have e2 : (j < n + 1) = (j < n) := by apply propext; omega
    simp only [e, and_false, if_false, e2]
def CO (σ K w : St) : Prop := w 0 0 = K 0 0 ∧ w 0 1 = K 0 1 ∧ w 0 2 = K 0 2 ∧ (∀ i, i < K 0 0 → w 1 i = K 1 i) ∧ (∀ g, g < K 0 1 → w 2 g = K 2 g ∧ w 3 g = K 3 g ∧ w 4 g = K 4 g) ∧ (∀ c, c < K 0 2 → w 6 c = K 6 c ∧ w 5 c = K 5 c) ∧ (∀ i, K 0 2 ≤ i → i < 32 → w 6 i = 0) ∧ w 0 21 = 0 ∧ w 15 0 = 0 ∧ w 15 1 = 0 ∧ (∀ i, 2 ≤ i → w 15 i = σ 15 i) ∧ ∀ k i, (k = 0 ∨ 10 ≤ k) → k ≠ 15 → (k ≠ 0 ∨ (i = 17 ∨ i = 20 ∨ (22 ≤ i))) → w k i = σ k i
def coP (σ : St) : Option Value → St → Prop := fun v w => ((rdR σ).1 = 4294967287 ∧ v = some (.int (nI (100 * (rdR σ).2 0 0 + 10 * (rdR σ).2 0 1 + (rdR σ).2 0 2))) ∧ OKT (rdR σ).2 ∧ CO σ (rdR σ).2 w) ∨ ((rdR σ).1 ≠ 4294967287 ∧ v = some (.int (nI 4294967293)) ∧ AG σ w)
set_option maxHeartbeats 4000000 in
set_option maxRecDepth 100000 in
theorem c_X5_coast {B : Bk} {σ : St} (tx : TXz σ) : MC yX5_coast cX5_coast 2 (some .int) 4 B [.ref (B.1 0)] σ (coP σ) := by
  have hlt := rs_lt (σ 10) (σ 0 17) 0 0 K00
  have t48 := tx.1
  refine MC_int RX5 [some (.ref (B.1 0)), none] 1 (by decide +kernel) rfl rfl (Nat.le_of_ble_eq_true rfl) (fun E Q hret => ?_)
  refine V_aload_n (pc := 0) dX5_coast_0 rfl ?_
  refine V_callV (pc := 1) ff_X5_readText ml_X5_104 (by first | rfl | assumption) rfl rfl (c_X5_readText (by assumption)) dX5_coast_1 rfl rfl (by decide) (by decide) (Nat.le_of_ble_eq_true rfl) (fun v u hu => ?_)
  obtain ⟨rfl, hA, hR⟩ := hu
  simp only [Option.toList, List.cons_append, List.nil_append]
  refine V_bipush (pc := 4) 4294967287 dX5_coast_4 (by decide) ?_
  refine V_icmp_eq (pc := 6) 12 dX5_coast_6 (by decide) (by unfold rdR; omega) (by omega) (fun h_6 => ?_) (fun h_6 => ?_)
  · skip
    obtain ⟨hr, ok⟩ := hR h_6
    have hR1 := h_6
    generalize hKK : (rdR σ).2 = K at *
    obtain ⟨r12, r13, r14, r7, r8, r9, r15⟩ := id hr
    obtain ⟨⟨o0, o1, o2, o3, o4, o5⟩, ok2, ok3⟩ := id ok
    refine V_aload_n (pc := 12) dX5_coast_12 rfl ?_
    refine V_aload_n (pc := 13) dX5_coast_13 rfl ?_
    refine G_X5_readTides (pc := 14) (by first | rfl | assumption) fl_X5_84 dX5_coast_14 ?_
    rw [r12]
    refine P_X5_tides (pc := 17) (by first | rfl | assumption) fl_X5_108 dX5_coast_17 ?_
    refine V_aload_n (pc := 20) dX5_coast_20 rfl ?_
    refine V_aload_n (pc := 21) dX5_coast_21 rfl ?_
    refine G_X5_readGrounds (pc := 22) (by first | rfl | assumption) fl_X5_87 dX5_coast_22 ?_
    rw [pt_ne (by omega), r13]
    refine P_X5_grounds (pc := 25) (by first | rfl | assumption) fl_X5_111 dX5_coast_25 ?_
    refine V_aload_n (pc := 28) dX5_coast_28 rfl ?_
    refine V_aload_n (pc := 29) dX5_coast_29 rfl ?_
    refine G_X5_readChildren (pc := 30) (by first | rfl | assumption) fl_X5_90 dX5_coast_30 ?_
    rw [pt_ne (by omega), pt_ne (by omega), r14]
    refine P_X5_children (pc := 33) (by first | rfl | assumption) fl_X5_114 dX5_coast_33 ?_
    refine V_iconst (pc := 36) 0 dX5_coast_36 (by decide) ?_
    refine V_istore_n (pc := 37) dX5_coast_37 (by decide) rfl ?_
    have L_38 : ∀ (m : Nat) (i : Nat), 32 - i = m → i ≤ 32 → V E B RX5 cX5_coast 2 4 Q 38 [some (.ref (B.1 0)), some (.int (nI i))] [] (zr (pt (pt (pt u 0 0 (K 0 0)) 0 1 (K 0 1)) 0 2 (K 0 2)) i) := by
      intro m
      induction m using Nat.strongRecOn with
      | _ m ih =>
        intro i hm hi
        
        refine V_iload_n (pc := 38) dX5_coast_38 rfl ?_
        refine V_bipush (pc := 39) 32 dX5_coast_39 (by decide) ?_
        refine V_icmp_ge (pc := 41) 57 dX5_coast_41 (by decide) (by first | omega | assumption | exact and1_lt _ | exact nb_p) (by first | omega | assumption | exact and1_lt _ | exact nb_p) (fun h_41 => ?_) (fun h_41 => ?_)
        · skip
          refine V_iconst (pc := 57) 0 dX5_coast_57 (by decide) ?_
          refine V_istore_n (pc := 58) dX5_coast_58 (by decide) rfl ?_
          have L_59 : ∀ (m : Nat) (i : Nat), K 0 0 - i = m → i ≤ K 0 0 → V E B RX5 cX5_coast 2 4 Q 59 [some (.ref (B.1 0)), some (.int (nI i))] [] (cpy (zr (pt (pt (pt u 0 0 (K 0 0)) 0 1 (K 0 1)) 0 2 (K 0 2)) 32) 1 0 7 0 i) := by
            intro m
            induction m using Nat.strongRecOn with
            | _ m ih =>
              intro i hm hi
              have hb : cpy (zr (pt (pt (pt u 0 0 (K 0 0)) 0 1 (K 0 1)) 0 2 (K 0 2)) 32) 1 0 7 0 i 0 0 = K 0 0 := by rw [cpy_o (by decide), zr_o (by decide), pt_ne (by decide), pt_ne (by decide), pt_at]
              refine V_iload_n (pc := 59) dX5_coast_59 rfl ?_
              refine V_aload_n (pc := 60) dX5_coast_60 rfl ?_
              refine G_X5_tides (pc := 61) (by first | rfl | assumption) fl_X5_108 dX5_coast_61 ?_
              rw [hb]
              refine V_icmp_ge (pc := 64) 85 dX5_coast_64 (by decide) (by first | omega | assumption | exact and1_lt _ | exact nb_p) (by first | omega | assumption | exact and1_lt _ | exact nb_p) (fun h_64 => ?_) (fun h_64 => ?_)
              · skip
                refine V_iconst (pc := 85) 0 dX5_coast_85 (by decide) ?_
                refine V_istore_n (pc := 86) dX5_coast_86 (by decide) rfl ?_
                have L_87 : ∀ (m : Nat) (i : Nat), K 0 1 - i = m → i ≤ K 0 1 → V E B RX5 cX5_coast 2 4 Q 87 [some (.ref (B.1 0)), some (.int (nI i))] [] (gc_ (cpy (zr (pt (pt (pt u 0 0 (K 0 0)) 0 1 (K 0 1)) 0 2 (K 0 2)) 32) 1 0 7 0 (K 0 0)) i) := by
                  intro m
                  induction m using Nat.strongRecOn with
                  | _ m ih =>
                    intro i hm hi
                    have hb : gc_ (cpy (zr (pt (pt (pt u 0 0 (K 0 0)) 0 1 (K 0 1)) 0 2 (K 0 2)) 32) 1 0 7 0 (K 0 0)) i 0 1 = K 0 1 := by rw [gc_o (by decide) (by decide) (by decide), cpy_o (by decide), zr_o (by decide), pt_ne (by decide), pt_at]
                    refine V_iload_n (pc := 87) dX5_coast_87 rfl ?_
                    refine V_aload_n (pc := 88) dX5_coast_88 rfl ?_
                    refine G_X5_grounds (pc := 89) (by first | rfl | assumption) fl_X5_111 dX5_coast_89 ?_
                    rw [hb]
                    refine V_icmp_ge (pc := 92) 147 dX5_coast_92 (by decide) (by first | omega | assumption | exact and1_lt _ | exact nb_p) (by first | omega | assumption | exact and1_lt _ | exact nb_p) (fun h_92 => ?_) (fun h_92 => ?_)
                    · skip
                      refine V_iconst (pc := 147) 0 dX5_coast_147 (by decide) ?_
                      refine V_istore_n (pc := 148) dX5_coast_148 (by decide) rfl ?_
                      have L_149 : ∀ (m : Nat) (i : Nat), K 0 2 - i = m → i ≤ K 0 2 → V E B RX5 cX5_coast 2 4 Q 149 [some (.ref (B.1 0)), some (.int (nI i))] [] (cc_ (gc_ (cpy (zr (pt (pt (pt u 0 0 (K 0 0)) 0 1 (K 0 1)) 0 2 (K 0 2)) 32) 1 0 7 0 (K 0 0)) (K 0 1)) i) := by
                        intro m
                        induction m using Nat.strongRecOn with
                        | _ m ih =>
                          intro i hm hi
                          have hb : cc_ (gc_ (cpy (zr (pt (pt (pt u 0 0 (K 0 0)) 0 1 (K 0 1)) 0 2 (K 0 2)) 32) 1 0 7 0 (K 0 0)) (K 0 1)) i 0 2 = K 0 2 := by rw [cc_o (by decide) (by decide), gc_o (by decide) (by decide) (by decide), cpy_o (by decide), zr_o (by decide), pt_at]
                          refine V_iload_n (pc := 149) dX5_coast_149 rfl ?_
                          refine V_aload_n (pc := 150) dX5_coast_150 rfl ?_
                          refine G_X5_children (pc := 151) (by first | rfl | assumption) fl_X5_114 dX5_coast_151 ?_
                          rw [hb]
                          refine V_icmp_ge (pc := 154) 193 dX5_coast_154 (by decide) (by first | omega | assumption | exact and1_lt _ | exact nb_p) (by first | omega | assumption | exact and1_lt _ | exact nb_p) (fun h_154 => ?_) (fun h_154 => ?_)
                          · skip
                            rw [show i = K 0 2 by omega]
                            refine V_aload_n (pc := 193) dX5_coast_193 rfl ?_
                            refine V_iconst (pc := 194) 0 dX5_coast_194 (by decide) ?_
                            refine P_X5_acts (pc := 195) (by first | rfl | assumption) fl_X5_117 dX5_coast_195 ?_
                            refine V_aload_n (pc := 198) dX5_coast_198 rfl ?_
                            refine G_X5_isKept (pc := 199) (by first | rfl | assumption) fl_X5_56 dX5_coast_199 ?_
                            refine V_iconst (pc := 202) 0 dX5_coast_202 (by decide) ?_
                            refine V_iconst (pc := 203) 0 dX5_coast_203 (by decide) ?_
                            refine V_zast (pc := 204) (by first | rfl | assumption) (by first | omega | assumption | exact and1_lt _ | exact nb_p) (by decide) dX5_coast_204 ?_
                            refine V_aload_n (pc := 205) dX5_coast_205 rfl ?_
                            refine G_X5_isKept (pc := 206) (by first | rfl | assumption) fl_X5_56 dX5_coast_206 ?_
                            refine V_iconst (pc := 209) 1 dX5_coast_209 (by decide) ?_
                            refine V_iconst (pc := 210) 0 dX5_coast_210 (by decide) ?_
                            refine V_zast (pc := 211) (by first | rfl | assumption) (by first | omega | assumption | exact and1_lt _ | exact nb_p) (by decide) dX5_coast_211 ?_
                            refine V_bipush (pc := 212) 100 dX5_coast_212 (by decide) ?_
                            refine V_aload_n (pc := 214) dX5_coast_214 rfl ?_
                            refine G_X5_tides (pc := 215) (by first | rfl | assumption) fl_X5_108 dX5_coast_215 ?_
                            rw [pt_ne (by omega), pt_ne (by omega), pt_ne (by omega), cc_o (by decide) (by decide), gc_o (by decide) (by decide) (by decide), cpy_o (by decide), zr_o (by decide), pt_ne (by omega), pt_ne (by omega), pt_at]
                            refine V_imul (pc := 218) dX5_coast_218 ?_
                            refine V_bipush (pc := 219) 10 dX5_coast_219 (by decide) ?_
                            refine V_aload_n (pc := 221) dX5_coast_221 rfl ?_
                            refine G_X5_grounds (pc := 222) (by first | rfl | assumption) fl_X5_111 dX5_coast_222 ?_
                            rw [pt_ne (by omega), pt_ne (by omega), pt_ne (by omega), cc_o (by decide) (by decide), gc_o (by decide) (by decide) (by decide), cpy_o (by decide), zr_o (by decide), pt_ne (by omega), pt_at]
                            refine V_imul (pc := 225) dX5_coast_225 ?_
                            refine V_iadd (pc := 226) dX5_coast_226 ?_
                            refine V_aload_n (pc := 227) dX5_coast_227 rfl ?_
                            refine G_X5_children (pc := 228) (by first | rfl | assumption) fl_X5_114 dX5_coast_228 ?_
                            rw [pt_ne (by omega), pt_ne (by omega), pt_ne (by omega), cc_o (by decide) (by decide), gc_o (by decide) (by decide) (by decide), cpy_o (by decide), zr_o (by decide), pt_at]
                            refine V_iadd (pc := 231) dX5_coast_231 ?_
                            exact hret _ _ _ _ dX5_coast_232 (Or.inl ⟨hR1, by rw [hKK], by rw [hKK]; exact ok, by
  rw [hKK]
  have q2 : ∀ k, k ≠ 6 → k ≠ 5 → (cc_ (gc_ (cpy (zr (pt (pt (pt u 0 0 (K 0 0)) 0 1 (K 0 1)) 0 2 (K 0 2)) 32) 1 0 7 0 (K 0 0)) (K 0 1)) (K 0 2)) k = (gc_ (cpy (zr (pt (pt (pt u 0 0 (K 0 0)) 0 1 (K 0 1)) 0 2 (K 0 2)) 32) 1 0 7 0 (K 0 0)) (K 0 1)) k := fun k h1 h2 => cc_o h1 h2
  have q3 : ∀ k, k ≠ 2 → k ≠ 3 → k ≠ 4 → (gc_ (cpy (zr (pt (pt (pt u 0 0 (K 0 0)) 0 1 (K 0 1)) 0 2 (K 0 2)) 32) 1 0 7 0 (K 0 0)) (K 0 1)) k = (cpy (zr (pt (pt (pt u 0 0 (K 0 0)) 0 1 (K 0 1)) 0 2 (K 0 2)) 32) 1 0 7 0 (K 0 0)) k := fun k h1 h2 h3 => gc_o h1 h2 h3
  have q4 : ∀ k, k ≠ 1 → (cpy (zr (pt (pt (pt u 0 0 (K 0 0)) 0 1 (K 0 1)) 0 2 (K 0 2)) 32) 1 0 7 0 (K 0 0)) k = (zr (pt (pt (pt u 0 0 (K 0 0)) 0 1 (K 0 1)) 0 2 (K 0 2)) 32) k := fun k h1 => cpy_o h1
  have q5 : ∀ k, k ≠ 6 → (zr (pt (pt (pt u 0 0 (K 0 0)) 0 1 (K 0 1)) 0 2 (K 0 2)) 32) k = (pt (pt (pt u 0 0 (K 0 0)) 0 1 (K 0 1)) 0 2 (K 0 2)) k := fun k h1 => zr_o h1
  refine ⟨?_, ?_, ?_, ?_, ?_, ?_, ?_, ?_, ?_, ?_, ?_, ?_⟩
  · rw [pt_ne (by omega), pt_ne (by omega), pt_ne (by omega), q2 0 (by decide) (by decide), q3 0 (by decide) (by decide) (by decide), q4 0 (by decide), q5 0 (by decide), pt_ne (by omega), pt_ne (by omega), pt_at]
  · rw [pt_ne (by omega), pt_ne (by omega), pt_ne (by omega), q2 0 (by decide) (by decide), q3 0 (by decide) (by decide) (by decide), q4 0 (by decide), q5 0 (by decide), pt_ne (by omega), pt_at]
  · rw [pt_ne (by omega), pt_ne (by omega), pt_ne (by omega), q2 0 (by decide) (by decide), q3 0 (by decide) (by decide) (by decide), q4 0 (by decide), q5 0 (by decide), pt_at]
  · intro i h
    rw [pt_ne (by omega), pt_ne (by omega), pt_ne (by omega), q2 1 (by decide) (by decide), q3 1 (by decide) (by decide) (by decide)]
    unfold cpy
    rw [if_pos ⟨rfl, by omega, by omega⟩, q5 7 (by decide), pt_ne (by omega), pt_ne (by omega), pt_ne (by omega), Nat.zero_add, Nat.sub_zero]
    exact r7 i h
  · intro g h
    rw [pt_ne (by omega), pt_ne (by omega), pt_ne (by omega), pt_ne (by omega), pt_ne (by omega), pt_ne (by omega), pt_ne (by omega), pt_ne (by omega), pt_ne (by omega), q2 2 (by decide) (by decide), q2 3 (by decide) (by decide), q2 4 (by decide) (by decide)]
    have e8 : (cpy (zr (pt (pt (pt u 0 0 (K 0 0)) 0 1 (K 0 1)) 0 2 (K 0 2)) 32) 1 0 7 0 (K 0 0)) 8 = u 8 := by rw [q4 8 (by decide), q5 8 (by decide), pt_o (by decide), pt_o (by decide), pt_o (by decide)]
    have := r8 g h
    rw [← e8] at this
    unfold gc_
    simp only [h, and_true, if_true, Nat.reduceEqDiff, if_false]
    exact this
  · intro c h
    rw [pt_ne (by omega), pt_ne (by omega), pt_ne (by omega), pt_ne (by omega), pt_ne (by omega), pt_ne (by omega)]
    have e9 : (gc_ (cpy (zr (pt (pt (pt u 0 0 (K 0 0)) 0 1 (K 0 1)) 0 2 (K 0 2)) 32) 1 0 7 0 (K 0 0)) (K 0 1)) 9 = u 9 := by rw [q3 9 (by decide) (by decide) (by decide), q4 9 (by decide), q5 9 (by decide), pt_o (by decide), pt_o (by decide), pt_o (by decide)]
    have := r9 c h
    rw [← e9] at this
    unfold cc_
    simp only [h, and_true, if_true, Nat.reduceEqDiff, if_false]
    exact this
  · intro i h1 h2
    rw [pt_ne (by omega), pt_ne (by omega), pt_ne (by omega)]
    unfold cc_
    rw [if_neg (by omega), if_neg (by omega), q3 6 (by decide) (by decide) (by decide), q4 6 (by decide)]
    unfold zr
    rw [if_pos ⟨rfl, h2⟩]
  · rw [pt_ne (by omega), pt_ne (by omega), pt_at]
  · rw [pt_ne (by omega), pt_at]
  · rw [pt_at]
  · intro i hi
    rw [pt_ne (by omega), pt_ne (by omega), pt_ne (by omega), q2 15 (by decide) (by decide), q3 15 (by decide) (by decide) (by decide), q4 15 (by decide), q5 15 (by decide), pt_ne (by omega), pt_ne (by omega), pt_ne (by omega)]
    exact hA 15 i (by omega) (by omega) (by omega) (by omega)
  · intro k i h1 h2 h3
    rw [pt_ne (by omega), pt_ne (by omega), pt_ne (by omega), q2 k (by omega) (by omega), q3 k (by omega) (by omega) (by omega), q4 k (by omega), q5 k (by omega), pt_ne (by omega), pt_ne (by omega), pt_ne (by omega)]
    exact hA k i (by omega) (by omega) (by omega) (by omega)⟩)
                          · skip
                            refine V_aload_n (pc := 157) dX5_coast_157 rfl ?_
                            refine G_X5_now (pc := 158) (by first | rfl | assumption) fl_X5_25 dX5_coast_158 ?_
                            refine V_iload_n (pc := 161) dX5_coast_161 rfl ?_
                            refine V_aload_n (pc := 162) dX5_coast_162 rfl ?_
                            refine G_X5_readChild (pc := 163) (by first | rfl | assumption) fl_X5_34 dX5_coast_163 ?_
                            refine V_iconst (pc := 166) 2 dX5_coast_166 (by decide) ?_
                            refine V_iload_n (pc := 167) dX5_coast_167 rfl ?_
                            refine V_imul (pc := 168) dX5_coast_168 ?_
                            refine V_iald (pc := 169) (by first | rfl | assumption) (by first | omega | assumption | exact and1_lt _ | exact nb_p) dX5_coast_169 ?_
                            refine V_iast (pc := 170) (by first | rfl | assumption) (by first | omega | assumption | exact and1_lt _ | exact nb_p) dX5_coast_170 ?_
                            refine V_aload_n (pc := 171) dX5_coast_171 rfl ?_
                            refine G_X5_kind (pc := 172) (by first | rfl | assumption) fl_X5_22 dX5_coast_172 ?_
                            refine V_iload_n (pc := 175) dX5_coast_175 rfl ?_
                            refine V_aload_n (pc := 176) dX5_coast_176 rfl ?_
                            refine G_X5_readChild (pc := 177) (by first | rfl | assumption) fl_X5_34 dX5_coast_177 ?_
                            refine V_iconst (pc := 180) 2 dX5_coast_180 (by decide) ?_
                            refine V_iload_n (pc := 181) dX5_coast_181 rfl ?_
                            refine V_imul (pc := 182) dX5_coast_182 ?_
                            refine V_iconst (pc := 183) 1 dX5_coast_183 (by decide) ?_
                            refine V_iadd (pc := 184) dX5_coast_184 ?_
                            refine V_iald (pc := 185) (by first | rfl | assumption) (by first | omega | assumption | exact and1_lt _ | exact nb_p) dX5_coast_185 ?_
                            refine V_iast (pc := 186) (by first | rfl | assumption) (by first | omega | assumption | exact and1_lt _ | exact nb_p) dX5_coast_186 ?_
                            refine V_iinc (pc := 187) 1 dX5_coast_187 (by decide) rfl (by decide) rfl ?_
                            refine V_goto (pc := 190) 149 dX5_coast_190 (by decide) ?_
                            rw [pt_o (by decide), cc_o (by decide) (by decide), cc_s]
                            exact ih _ (by omega) (i + 1) rfl (by omega)
                      rw [show i = K 0 1 by omega]
                      have e := L_149 _ 0 rfl (by omega)
                      rw [cc_0] at e
                      exact e
                    · skip
                      refine V_aload_n (pc := 95) dX5_coast_95 rfl ?_
                      refine G_X5_groundCell (pc := 96) (by first | rfl | assumption) fl_X5_13 dX5_coast_96 ?_
                      refine V_iload_n (pc := 99) dX5_coast_99 rfl ?_
                      refine V_aload_n (pc := 100) dX5_coast_100 rfl ?_
                      refine G_X5_readGround (pc := 101) (by first | rfl | assumption) fl_X5_31 dX5_coast_101 ?_
                      refine V_iconst (pc := 104) 3 dX5_coast_104 (by decide) ?_
                      refine V_iload_n (pc := 105) dX5_coast_105 rfl ?_
                      refine V_imul (pc := 106) dX5_coast_106 ?_
                      refine V_iald (pc := 107) (by first | rfl | assumption) (by first | omega | assumption | exact and1_lt _ | exact nb_p) dX5_coast_107 ?_
                      refine V_iast (pc := 108) (by first | rfl | assumption) (by first | omega | assumption | exact and1_lt _ | exact nb_p) dX5_coast_108 ?_
                      refine V_aload_n (pc := 109) dX5_coast_109 rfl ?_
                      refine G_X5_groundSubject (pc := 110) (by first | rfl | assumption) fl_X5_16 dX5_coast_110 ?_
                      refine V_iload_n (pc := 113) dX5_coast_113 rfl ?_
                      refine V_aload_n (pc := 114) dX5_coast_114 rfl ?_
                      refine G_X5_readGround (pc := 115) (by first | rfl | assumption) fl_X5_31 dX5_coast_115 ?_
                      refine V_iconst (pc := 118) 3 dX5_coast_118 (by decide) ?_
                      refine V_iload_n (pc := 119) dX5_coast_119 rfl ?_
                      refine V_imul (pc := 120) dX5_coast_120 ?_
                      refine V_iconst (pc := 121) 1 dX5_coast_121 (by decide) ?_
                      refine V_iadd (pc := 122) dX5_coast_122 ?_
                      refine V_iald (pc := 123) (by first | rfl | assumption) (by first | omega | assumption | exact and1_lt _ | exact nb_p) dX5_coast_123 ?_
                      refine V_iast (pc := 124) (by first | rfl | assumption) (by first | omega | assumption | exact and1_lt _ | exact nb_p) dX5_coast_124 ?_
                      refine V_aload_n (pc := 125) dX5_coast_125 rfl ?_
                      refine G_X5_groundKind (pc := 126) (by first | rfl | assumption) fl_X5_19 dX5_coast_126 ?_
                      refine V_iload_n (pc := 129) dX5_coast_129 rfl ?_
                      refine V_aload_n (pc := 130) dX5_coast_130 rfl ?_
                      refine G_X5_readGround (pc := 131) (by first | rfl | assumption) fl_X5_31 dX5_coast_131 ?_
                      refine V_iconst (pc := 134) 3 dX5_coast_134 (by decide) ?_
                      refine V_iload_n (pc := 135) dX5_coast_135 rfl ?_
                      refine V_imul (pc := 136) dX5_coast_136 ?_
                      refine V_iconst (pc := 137) 2 dX5_coast_137 (by decide) ?_
                      refine V_iadd (pc := 138) dX5_coast_138 ?_
                      refine V_iald (pc := 139) (by first | rfl | assumption) (by first | omega | assumption | exact and1_lt _ | exact nb_p) dX5_coast_139 ?_
                      refine V_iast (pc := 140) (by first | rfl | assumption) (by first | omega | assumption | exact and1_lt _ | exact nb_p) dX5_coast_140 ?_
                      refine V_iinc (pc := 141) 1 dX5_coast_141 (by decide) rfl (by decide) rfl ?_
                      refine V_goto (pc := 144) 87 dX5_coast_144 (by decide) ?_
                      simp only [pt_o (show (8 : Nat) ≠ 2 by decide), pt_o (show (8 : Nat) ≠ 3 by decide), gc_o (show (8 : Nat) ≠ 2 by decide) (show (8 : Nat) ≠ 3 by decide) (show (8 : Nat) ≠ 4 by decide)]
                      rw [gc_s]
                      exact ih _ (by omega) (i + 1) rfl (by omega)
                rw [show i = K 0 0 by omega]
                have e := L_87 _ 0 rfl (by omega)
                rw [gc_0] at e
                exact e
              · skip
                refine V_aload_n (pc := 67) dX5_coast_67 rfl ?_
                refine G_X5_tide (pc := 68) (by first | rfl | assumption) fl_X5_7 dX5_coast_68 ?_
                refine V_iload_n (pc := 71) dX5_coast_71 rfl ?_
                refine V_aload_n (pc := 72) dX5_coast_72 rfl ?_
                refine G_X5_readTide (pc := 73) (by first | rfl | assumption) fl_X5_28 dX5_coast_73 ?_
                refine V_iload_n (pc := 76) dX5_coast_76 rfl ?_
                refine V_iald (pc := 77) (by first | rfl | assumption) (by first | omega | assumption | exact and1_lt _ | exact nb_p) dX5_coast_77 ?_
                refine V_iast (pc := 78) (by first | rfl | assumption) (by first | omega | assumption | exact and1_lt _ | exact nb_p) dX5_coast_78 ?_
                refine V_iinc (pc := 79) 1 dX5_coast_79 (by decide) rfl (by decide) rfl ?_
                refine V_goto (pc := 82) 59 dX5_coast_82 (by decide) ?_
                rw [cpy_s (by omega) (by omega) (by omega)]
                exact ih _ (by omega) (i + 1) rfl (by omega)
          rw [show i = 32 by omega]
          have e := L_59 _ 0 rfl (by omega)
          rw [cpy_0] at e
          exact e
        · skip
          refine V_aload_n (pc := 44) dX5_coast_44 rfl ?_
          refine G_X5_now (pc := 45) (by first | rfl | assumption) fl_X5_25 dX5_coast_45 ?_
          refine V_iload_n (pc := 48) dX5_coast_48 rfl ?_
          refine V_iconst (pc := 49) 0 dX5_coast_49 (by decide) ?_
          refine V_iast (pc := 50) (by first | rfl | assumption) (by first | omega | assumption | exact and1_lt _ | exact nb_p) dX5_coast_50 ?_
          refine V_iinc (pc := 51) 1 dX5_coast_51 (by decide) rfl (by decide) rfl ?_
          refine V_goto (pc := 54) 38 dX5_coast_54 (by decide) ?_
          rw [zr_s]
          exact ih _ (by omega) (i + 1) rfl (by omega)
    have e := L_38 _ 0 rfl (by omega)
    rw [zr_0] at e
    exact e
  · skip
    refine V_bipush (pc := 9) 4294967293 dX5_coast_9 (by decide) ?_
    exact hret _ _ _ _ dX5_coast_11 (Or.inr ⟨h_6, rfl, hA⟩)
