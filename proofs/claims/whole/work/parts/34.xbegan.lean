/-! where one began, shares: the class -/
def paI (σ : St) (b : Nat) (P : Nat → Nat) : Nat → Nat → Nat
  | 0 => P
  | d + 1 => paP σ b (paI σ b P d)
theorem paI_ok {σ : St} {b f : Nat} {P : Nat → Nat} (h : OKX σ b) (hf : f < 12) (hp : OKP P) (hz : Z32 P) (h0 : P 0 = f) (h5 : P 5 = 0) (h6 : ∀ s, s < 5 → P (6 + s) = 0) (h31 : P 31 = 0) : ∀ d, OKP (paI σ b P d) ∧ Z32 (paI σ b P d) ∧ paI σ b P d 0 = wkC (KX σ b) f d ∧ paI σ b P d 5 = 0 ∧ paI σ b P d 31 = d ∧ ∀ s, s < 5 → paI σ b P d (6 + s) = wkN (KX σ b) s f d
  | 0 => ⟨hp, hz, h0, h5, h31, h6⟩
  | d + 1 => by
    obtain ⟨i1, i2, i3, i4, i5, i6⟩ := paI_ok h hf hp hz h0 h5 h6 h31 d
    have o := h.2.1.1
    have e : paI σ b P (d + 1) = fup (lrX σ b 63 0 0 (fup (paI σ b P d) 0 (wkC (KX σ b) f (d + 1)))) 31 (d + 1) := by
      show paP σ b (paI σ b P d) = _
      unfold paP
      rw [i3, i4, i5, if_neg (by decide)]
      rfl
    have hc := wkC_lt (K := KX σ b) hf (d + 1)
    have ho : ∀ j, j < 6 ∨ 31 ≤ j → lrX σ b 63 0 0 (fup (paI σ b P d) 0 (wkC (KX σ b) f (d + 1))) j = fup (paI σ b P d) 0 (wkC (KX σ b) f (d + 1)) j := fun j hj => lrX_o h (by decide) hj
    have e6 : ∀ s, s < 5 → paI σ b P (d + 1) (6 + s) = wkN (KX σ b) s f (d + 1) := fun s hs => by
      rw [e, fup_o (by omega)]
      unfold lrX
      rw [fup_s, wkN]
      by_cases hg : grA (KX σ b) 63 (wkC (KX σ b) f (d + 1)) ≠ 4294967287
      · rw [if_pos hg]
        by_cases h3 : KX σ b 3 (grA (KX σ b) 63 (wkC (KX σ b) f (d + 1))) = s
        · rw [if_neg (show ¬ (0 : Nat) = 1 by decide), if_pos (And.intro hg h3), h3, show 6 + 5 * 0 + s = 6 + s by omega, fup_s, fup_o (by omega), i6 s hs]
        · rw [if_neg (show ¬ (0 : Nat) = 1 by decide), if_neg (show ¬ (grA (KX σ b) 63 (wkC (KX σ b) f (d + 1)) ≠ 4294967287 ∧ KX σ b 3 (grA (KX σ b) 63 (wkC (KX σ b) f (d + 1))) = s) from fun q => h3 q.2), fup_o (by omega), fup_o (by omega), i6 s hs]
      · rw [if_neg hg, if_neg (fun q => hg q.1), fup_o (by omega), i6 s hs]
    refine ⟨⟨fun i hi => ?_, ?_, fun i hi => ?_⟩, fun i hi => ?_, ?_, ?_, ?_, e6⟩
    · rw [e, fup_o (by omega), ho i (by omega)]
      by_cases q : i = 0
      · rw [q, fup_s]; exact hc
      · rw [fup_o q]; exact i1.1 i hi
    · rw [e, fup_o (by omega), ho 5 (by omega), fup_o (by omega)]; exact i1.2.1
    · rcases (show i < 5 ∨ 5 ≤ i by omega) with q | q
      · rw [e6 i q]; exact wkN_le _ _ _ _
      · rw [e, fup_o (by omega)]
        unfold lrX
        split
        · rename_i hg
          have hl : grA (KX σ b) 63 (fup (paI σ b P d) 0 (wkC (KX σ b) f (d + 1)) 0) < KX σ b 0 1 := by
            rcases grA_or o 63 (fup (paI σ b P d) 0 (wkC (KX σ b) f (d + 1)) 0) with z | z
            · exact absurd z hg
            · exact z
          have h3 := (o.2.2.2.2.1 _ hl).2.1
          rw [fup_o (by omega), fup_o (by omega)]
          exact i1.2.2 i hi
        · rw [fup_o (by omega)]
          exact i1.2.2 i hi
    · rw [e, fup_o (by omega), ho i (by omega), fup_o (by omega)]; exact i2 i hi
    · rw [e, fup_o (by omega), ho 0 (by omega), fup_s]
    · rw [e, fup_o (by omega), ho 5 (by omega), fup_o (by omega), i4]
    · rw [e, fup_s]
theorem ld_ok {P : Nat → Nat} {f : Nat} (hp : OKP P) (hf : f < 12) : OKP (ldP P f) ∧ Z32 (ldP P f) ∧ ldP P f 0 = f ∧ ldP P f 5 = 0 ∧ (∀ s, s < 5 → ldP P f (6 + s) = 0) ∧ ldP P f 31 = 0 := by
  unfold ldP
  refine ⟨⟨fun i hi => ?_, ?_, fun i hi => ?_⟩, fun i hi => ?_, ?_, ?_, fun s hs => ?_, ?_⟩
  all_goals try dsimp only
  · have := hp.1 i hi
    (repeat' split) <;> omega
  · rw [if_neg (by omega), if_neg (by omega)]; decide
  · rw [if_neg (by omega), if_neg (by omega)]; decide
  · rw [if_neg (by omega), if_neg (by omega)]
  · rw [if_pos rfl]
  · rw [if_neg (by omega), if_neg (by omega)]
  · rw [if_neg (by omega), if_neg (by omega)]
  · rw [if_neg (by omega), if_neg (by omega)]
def mbP (σ : St) (f : Nat) : Option Value → St → Prop := fun v u => TQ σ u ∧ v = some (.int (nI (if bgP (KX σ (σ 17 2)) (σ 26) (σ 27) (σ 28) (σ 25 3) f then 1 else 0)))
set_option maxHeartbeats 4000000 in
set_option maxRecDepth 100000 in
theorem c_X4_mayHaveBegun {B : Bk} {σ : St} {f : Nat} {T : Nat → Nat} (g : GX σ) (w : OKM σ) (hf : f < 12) (hT : OKP T) (hzT : Z32 T) : MC yX4_mayHaveBegun cX4_mayHaveBegun 3 (some .boolean) 4 B [.ref (B.1 17), .int (nI f)] (stX σ 48 T) (mbP σ f) := by
  obtain ⟨hx, hp, hd⟩ := id g
  have hb := hx.1
  obtain ⟨b1, b2, b3, b4, b5, b6, b7, b8⟩ := kd3' hb
  obtain ⟨o0, o1, o2, o3, o4, o5⟩ := id hx.2.1.1
  have n7 : σ (σ 17 2) 7 ≤ 4 := o0
  have n8 : σ (σ 17 2) 8 ≤ 6 := o1
  have n9 : σ (σ 17 2) 9 ≤ 5 := o2
  have hc5 : ∀ i, i < 5 → σ (45 + 1) i < 12 := fun i h => by have := hp.1 i h; rw [pX_c h] at this; exact this
  have hm5 : σ 45 2 < 32 := hp.2.1
  have hd3 : σ 45 3 ≤ 2 ^ 20 := hd
  have hgc : ∀ i, i < σ (σ 17 2) 8 → σ (σ 17 2 + 2) i < 12 := fun i h => (o4 i h).1
  have e02 : KX σ (σ 17 2) 0 2 = σ (σ 17 2) 9 := rfl
  have e01 : KX σ (σ 17 2) 0 1 = σ (σ 17 2) 8 := rfl
  have o : OKK (KX σ (σ 17 2)) := hx.2.1.1
  have s17 : ∀ {T : Nat → Nat}, stX σ 48 T 17 = σ 17 := fun {T} => stX_o (by decide) (by decide) (by decide)
  obtain ⟨l1, l2, l3, l4, l5, l6⟩ := ld_ok hT hf
  have hA := paI_ok hx hf l1 l2 l3 l4 l5 l6
  refine MC_bool RX4 [some (.ref (B.1 17)), some (.int (nI f)), none] 1 (by decide +kernel) rfl rfl (Nat.le_of_ble_eq_true rfl) (fun E Q hret => ?_)
  refine V_aload_n (pc := 0) dX4_mayHaveBegun_0 rfl ?_
  refine G_X4_trial (pc := 1) (by first | rfl | assumption) fl_X4_30 dX4_mayHaveBegun_1 ?_
  refine V_iload_n (pc := 4) dX4_mayHaveBegun_4 rfl ?_
  refine V_callV_V (pc := 5) ff_X3_letDown ml_X4_280 (by first | rfl | assumption) rfl rfl (c_X3_letDown (k := 48) rfl) dX4_mayHaveBegun_5 rfl rfl (by decide) (by decide) (Nat.le_of_ble_eq_true rfl) ?_
  rw [pX_stX _ _ hzT, stX_stX]
  refine V_iconst (pc := 8) 0 dX4_mayHaveBegun_8 (by decide) ?_
  refine V_istore_n (pc := 9) dX4_mayHaveBegun_9 (by decide) rfl ?_
  have L_10 : ∀ (m : Nat) (i : Nat), 10 - i = m → i ≤ 10 → (∀ d, d < i → arB σ (paI σ (σ 17 2) (ldP T f) d) d (σ 25 3)) → V E B RX4 cX4_mayHaveBegun 3 4 Q 10 [some (.ref (B.1 17)), some (.int (nI f)), some (.int (nI i))] [] (stX σ 48 (paI σ (σ 17 2) (ldP T f) i)) := by
    intro m
    induction m using Nat.strongRecOn with
    | _ m ih =>
      intro i hm hi ha
      obtain ⟨a1, a2, a3, a4, a5, a6⟩ := hA i
      refine V_iload_n (pc := 10) dX4_mayHaveBegun_10 rfl ?_
      refine V_bipush (pc := 11) 9 dX4_mayHaveBegun_11 (by decide) ?_
      refine V_icmp_gt (pc := 13) 50 dX4_mayHaveBegun_13 (by decide) (by first | omega | assumption | exact and1_lt _ | exact nb_p) (by first | omega | assumption | exact and1_lt _ | exact nb_p) (fun h_13 => ?_) (fun h_13 => ?_)
      · skip
        refine V_iconst (pc := 50) 1 dX4_mayHaveBegun_50 (by decide) ?_
        exact hret _ _ _ _ dX4_mayHaveBegun_51 (by first | decide | omega | (split <;> omega)) ⟨⟨_, a1, a2, rfl⟩, by rw [if_pos (fun k hk => by have w3 := w.2 k hk; rw [← (hA (σ 27 k)).2.2.2.2.2 _ w3.1]; exact ha (σ 27 k) (by omega) k hk rfl)]⟩
      · skip
        refine V_aload_n (pc := 16) dX4_mayHaveBegun_16 rfl ?_
        refine G_X4_memories (pc := 17) (by first | rfl | assumption) fl_X4_50 dX4_mayHaveBegun_17 ?_
        refine V_iload_n (pc := 20) dX4_mayHaveBegun_20 rfl ?_
        refine V_aload_n (pc := 21) dX4_mayHaveBegun_21 rfl ?_
        refine G_X4_trial (pc := 22) (by first | rfl | assumption) fl_X4_30 dX4_mayHaveBegun_22 ?_
        refine V_callV_I (pc := 25) ff_X1_areSo ml_X4_283 (by first | rfl | assumption) rfl rfl (c_X1_areSo2 (k := 48) rfl w a1 (by omega)) dX4_mayHaveBegun_25 rfl rfl (by decide) (by decide) (Nat.le_of_ble_eq_true rfl) ?_
        refine V_ifb_ne (pc := 28) 33 dX4_mayHaveBegun_28 (by decide) (fun h_28 => ?_) (fun h_28 => ?_)
        · skip
          refine V_aload_n (pc := 33) dX4_mayHaveBegun_33 rfl ?_
          refine G_X4_trial (pc := 34) (by first | rfl | assumption) fl_X4_30 dX4_mayHaveBegun_34 ?_
          refine V_aload_n (pc := 37) dX4_mayHaveBegun_37 rfl ?_
          refine G_X4_shore (pc := 38) (by first | rfl | assumption) fl_X4_16 dX4_mayHaveBegun_38 ?_
          rw [s17]
          refine V_callV_V (pc := 41) ff_X3_passAlone ml_X4_287 (by first | rfl | assumption) rfl rfl (c_X3_passAlone2 (k := 48) rfl hx a1 (by omega)) dX4_mayHaveBegun_41 rfl rfl (by decide) (by decide) (Nat.le_of_ble_eq_true rfl) ?_
          refine V_iinc (pc := 44) 1 dX4_mayHaveBegun_44 (by decide) rfl (by decide) rfl ?_
          refine V_goto (pc := 47) 10 dX4_mayHaveBegun_47 (by decide) ?_
          exact ih _ (by omega) (i + 1) rfl (by omega) (fun d hd => by
            rcases (show d < i ∨ d = i by omega) with q | q
            · exact ha d q
            · rw [q]; exact h_28)
        · skip
          refine V_iconst (pc := 31) 0 dX4_mayHaveBegun_31 (by decide) ?_
          exact hret _ _ _ _ dX4_mayHaveBegun_32 (by first | decide | omega | (split <;> omega)) ⟨⟨_, a1, a2, rfl⟩, by rw [if_neg (fun q => h_28 (fun j hj hj2 => by rw [← q j hj, hj2]; exact a6 _ (w.2 j hj).1))]⟩
  exact L_10 _ 0 rfl (by omega) (fun d hd => absurd hd (by omega))
set_option maxHeartbeats 4000000 in
set_option maxRecDepth 100000 in
theorem c_X4_began {B : Bk} {σ : St} (g : GX σ) (w : OKM σ) (h48 : OKP (pX σ 48)) : MC yX4_began cX4_began 3 (some .int) 5 B [.ref (B.1 17)] σ (rI (bgF (KX σ (σ 17 2)) (σ 26) (σ 27) (σ 28) (σ 25 3) 12) (TQ σ)) := by
  refine MC_int RX4 [some (.ref (B.1 17)), none, none] 2 (by decide +kernel) rfl rfl (Nat.le_of_ble_eq_true rfl) (fun E Q hret => ?_)
  refine V_iconst (pc := 0) 0 dX4_began_0 (by decide) ?_
  refine V_istore_n (pc := 1) dX4_began_1 (by decide) rfl ?_
  refine V_iconst (pc := 2) 0 dX4_began_2 (by decide) ?_
  refine V_istore_n (pc := 3) dX4_began_3 (by decide) rfl ?_
  have L_4 : ∀ (m : Nat) (c se : Nat) (T : Nat → Nat), 12 - c = m → c ≤ 12 → se = bgF (KX σ (σ 17 2)) (σ 26) (σ 27) (σ 28) (σ 25 3) c → OKP T → Z32 T → V E B RX4 cX4_began 3 5 Q 4 [some (.ref (B.1 17)), some (.int (nI se)), some (.int (nI c))] [] (stX σ 48 T) := by
    intro m
    induction m using Nat.strongRecOn with
    | _ m ih =>
      intro c se T hm hc hse hT hzT
      refine V_iload_n (pc := 4) dX4_began_4 rfl ?_
      refine V_bipush (pc := 5) 12 dX4_began_5 (by decide) ?_
      refine V_icmp_ge (pc := 7) 30 dX4_began_7 (by decide) (by first | omega | assumption | exact and1_lt _ | exact nb_p) (by first | omega | assumption | exact and1_lt _ | exact nb_p) (fun h_7 => ?_) (fun h_7 => ?_)
      · skip
        refine V_iload_n (pc := 30) dX4_began_30 rfl ?_
        exact hret _ _ _ _ dX4_began_31 (rI_mk (by rw [hse, show c = 12 by omega]) ⟨_, hT, hzT, rfl⟩)
      · skip
        refine V_aload_n (pc := 10) dX4_began_10 rfl ?_
        refine V_iload_n (pc := 11) dX4_began_11 rfl ?_
        refine V_callV (pc := 12) ff_X4_mayHaveBegun ml_X4_195 (by first | rfl | assumption) rfl rfl (c_X4_mayHaveBegun g w (by omega) hT hzT) dX4_began_12 rfl rfl (by decide) (by decide) (Nat.le_of_ble_eq_true rfl) (fun v u hu => ?_)
        obtain ⟨⟨T2, hT2, hz2, rfl⟩, rfl⟩ := hu
        simp only [Option.toList, List.cons_append, List.nil_append]
        refine V_ifb_eq (pc := 15) 24 dX4_began_15 (by decide) (fun h_15 => ?_) (fun h_15 => ?_)
        · skip
          refine V_iinc (pc := 24) 1 dX4_began_24 (by decide) rfl (by decide) rfl ?_
          refine V_goto (pc := 27) 4 dX4_began_27 (by decide) ?_
          exact ih _ (by omega) (c + 1) _ _ rfl (by omega) (by rw [bgF, hse]; first | (rw [if_neg h_15, Nat.or_zero]; done) | rw [if_pos h_15]) hT2 hz2
        · skip
          refine V_iload_n (pc := 18) dX4_began_18 rfl ?_
          refine V_iconst (pc := 19) 1 dX4_began_19 (by decide) ?_
          refine V_iload_n (pc := 20) dX4_began_20 rfl ?_
          refine V_ishl (pc := 21) dX4_began_21 (by first | omega | assumption | exact and1_lt _ | exact nb_p) ?_
          refine V_ior (pc := 22) dX4_began_22 ?_
          refine V_istore_n (pc := 23) dX4_began_23 (by decide) rfl ?_
          refine V_iinc (pc := 24) 1 dX4_began_24 (by decide) rfl (by decide) rfl ?_
          refine V_goto (pc := 27) 4 dX4_began_27 (by decide) ?_
          exact ih _ (by omega) (c + 1) _ _ rfl (by omega) (by rw [bgF, hse]; first | (rw [if_neg h_15, Nat.or_zero]; done) | rw [if_pos h_15]) hT2 hz2
  have e := L_4 _ 0 _ (pX σ 48) rfl (by omega) rfl h48 (Z_pX σ 48)
  rw [stX_self] at e
  exact e
/-- all but the three rows of weights is the same -/
def AW (σ u : St) : Prop := ∀ k, k ≠ 19 → k ≠ 20 → k ≠ 21 → u k = σ k
theorem AW_ok {σ u : St} (h : AW σ u) (g : GX σ) : GX u ∧ KX u (u 17 2) = KX σ (σ 17 2) ∧ pX u 45 = pX σ 45 ∧ u 17 2 = σ 17 2 ∧ ∀ i, u (σ 17 2) i = σ (σ 17 2) i := by
  have e17 : u 17 2 = σ 17 2 := by rw [h 17 (by decide) (by decide) (by decide)]
  have b8 := (kd3' g.1.1).2.2.2.2.2.2.2
  have eP : pX u 45 = pX σ 45 := pX_same (h _ (by decide) (by decide) (by decide)) (h _ (by decide) (by decide) (by decide)) (h _ (by decide) (by decide) (by decide))
  have eK : KX u (u 17 2) = KX σ (σ 17 2) := by
    rw [e17]
    exact KX_same (fun k h1 h2 => h k (by omega) (by omega) (by omega))
  refine ⟨⟨?_, by rw [eP]; exact g.2.1, by rw [eP]; exact g.2.2⟩, eK, eP, e17, fun i => by rw [h _ (by omega) (by omega) (by omega)]⟩
  rw [e17]
  exact OKX_same g.1 (fun k h1 h2 => h k (by omega) (by omega) (by omega))
theorem pt_stX {σ : St} {k j i x : Nat} {P : Nat → Nat} (h : j ≠ k) (h1 : j ≠ k + 1) (h2 : j ≠ k + 2) : pt (stX σ k P) j i x = stX (pt σ j i x) k P := by
  funext k' i'
  by_cases c : k' = j ∧ i' = i
  · rw [c.1, c.2, pt_at, stX_o h h1 h2, pt_at]
  · rw [pt_ne (by omega)]
    unfold stX
    rw [pt_ne (by omega)]
def wwP (σ : St) (c th : Nat) : Option Value → St → Prop := fun v u => TQ σ u ∧ v = some (.int (nI (wbW (KX σ (σ 17 2)) (pX σ 45) th c)))
set_option maxHeartbeats 4000000 in
set_option maxRecDepth 100000 in
theorem c_X4_weightWith {B : Bk} {σ : St} {c th : Nat} {T : Nat → Nat} (g : GX σ) (hc : c < 5) (hth : th < 64) : MC yX4_weightWith cX4_weightWith 4 (some .int) 4 B [.ref (B.1 17), .int (nI c), .int (nI th)] (stX σ 48 T) (wwP σ c th) := by
  obtain ⟨hx, hp, hd⟩ := id g
  have hb := hx.1
  obtain ⟨b1, b2, b3, b4, b5, b6, b7, b8⟩ := kd3' hb
  obtain ⟨o0, o1, o2, o3, o4, o5⟩ := id hx.2.1.1
  have n7 : σ (σ 17 2) 7 ≤ 4 := o0
  have n8 : σ (σ 17 2) 8 ≤ 6 := o1
  have n9 : σ (σ 17 2) 9 ≤ 5 := o2
  have hc5 : ∀ i, i < 5 → σ (45 + 1) i < 12 := fun i h => by have := hp.1 i h; rw [pX_c h] at this; exact this
  have hm5 : σ 45 2 < 32 := hp.2.1
  have hd3 : σ 45 3 ≤ 2 ^ 20 := hd
  have hgc : ∀ i, i < σ (σ 17 2) 8 → σ (σ 17 2 + 2) i < 12 := fun i h => (o4 i h).1
  have e02 : KX σ (σ 17 2) 0 2 = σ (σ 17 2) 9 := rfl
  have e01 : KX σ (σ 17 2) 0 1 = σ (σ 17 2) 8 := rfl
  have o : OKK (KX σ (σ 17 2)) := hx.2.1.1
  have s17 : ∀ {T : Nat → Nat}, stX σ 48 T 17 = σ 17 := fun {T} => stX_o (by decide) (by decide) (by decide)
  refine MC_int RX4 [some (.ref (B.1 17)), some (.int (nI c)), some (.int (nI th)), none] 1 (by decide +kernel) rfl rfl (Nat.le_of_ble_eq_true rfl) (fun E Q hret => ?_)
  refine V_aload_n (pc := 0) dX4_weightWith_0 rfl ?_
  refine G_X4_trial (pc := 1) (by first | rfl | assumption) fl_X4_30 dX4_weightWith_1 ?_
  refine V_aload_n (pc := 4) dX4_weightWith_4 rfl ?_
  refine G_X4_now (pc := 5) (by first | rfl | assumption) fl_X4_26 dX4_weightWith_5 ?_
  refine V_callV_V (pc := 8) ff_X3_take ml_X4_170 (by first | rfl | assumption) rfl rfl (c_take48) dX4_weightWith_8 rfl rfl (by decide) (by decide) (Nat.le_of_ble_eq_true rfl) ?_
  refine V_iconst (pc := 11) 0 dX4_weightWith_11 (by decide) ?_
  refine V_istore_n (pc := 12) dX4_weightWith_12 (by decide) rfl ?_
  have L_13 : ∀ (m : Nat) (i : Nat), 6 - i = m → i ≤ 6 → V E B RX4 cX4_weightWith 4 4 Q 13 [some (.ref (B.1 17)), some (.int (nI c)), some (.int (nI th)), some (.int (nI i))] [] (stX σ 48 (itr (KX σ (σ 17 2)) th (pX σ 45) i)) := by
    intro m
    induction m using Nat.strongRecOn with
    | _ m ih =>
      intro i hm hi
      refine V_iload_n (pc := 13) dX4_weightWith_13 rfl ?_
      refine V_bipush (pc := 14) 6 dX4_weightWith_14 (by decide) ?_
      refine V_icmp_ge (pc := 16) 38 dX4_weightWith_16 (by decide) (by first | omega | assumption | exact and1_lt _ | exact nb_p) (by first | omega | assumption | exact and1_lt _ | exact nb_p) (fun h_16 => ?_) (fun h_16 => ?_)
      · skip
        refine V_aload_n (pc := 38) dX4_weightWith_38 rfl ?_
        refine G_X4_trial (pc := 39) (by first | rfl | assumption) fl_X4_30 dX4_weightWith_39 ?_
        refine V_iload_n (pc := 42) dX4_weightWith_42 rfl ?_
        refine V_callV_I (pc := 43) ff_X3_weight ml_X4_127 (by first | rfl | assumption) rfl rfl (c_X3_weight (k := 48) rfl hc) dX4_weightWith_43 rfl rfl (by decide) (by decide) (Nat.le_of_ble_eq_true rfl) ?_
        rw [pX_stX _ _ (Z_itr o (Z_pX σ 45) th i)]
        exact hret _ _ _ _ dX4_weightWith_46 ⟨⟨_, OKP_itr o hp th i, Z_itr o (Z_pX σ 45) th i, rfl⟩, by rw [show i = 6 by omega]; rfl⟩
      · skip
        refine V_aload_n (pc := 19) dX4_weightWith_19 rfl ?_
        refine G_X4_trial (pc := 20) (by first | rfl | assumption) fl_X4_30 dX4_weightWith_20 ?_
        refine V_aload_n (pc := 23) dX4_weightWith_23 rfl ?_
        refine G_X4_shore (pc := 24) (by first | rfl | assumption) fl_X4_16 dX4_weightWith_24 ?_
        refine V_iconst (pc := 27) 1 dX4_weightWith_27 (by decide) ?_
        refine V_iload_n (pc := 28) dX4_weightWith_28 rfl ?_
        rw [s17]
        refine V_callV_V (pc := 29) ff_X3_pass ml_X4_144 (by first | rfl | assumption) rfl rfl (c_X3_pass2 (k := 48) (z := 1) rfl hx (Z_itr o (Z_pX σ 45) th i) (OKP_itr o hp th i) (by decide) hth (by rw [itr_31 o]; omega)) dX4_weightWith_29 rfl rfl (by decide) (by decide) (Nat.le_of_ble_eq_true rfl) ?_
        refine V_iinc (pc := 32) 1 dX4_weightWith_32 (by decide) rfl (by decide) rfl ?_
        refine V_goto (pc := 35) 13 dX4_weightWith_35 (by decide) ?_
        exact ih _ (by omega) (i + 1) rfl (by omega)
  exact L_13 _ 0 rfl (by omega)
def shG2 (K : St) (P : Nat → Nat) (g c up : Nat) : Nat := if g < K 0 1 ∧ c < K 0 2 then (if up = 0 then fct (K 0 1) / shG K P g c else iN (Int32.ofInt (shF K P g c (2 ^ K 0 1)) / nI (shG K P g c))) else 4294967295
def TW (σ u : St) : Prop := ∃ w T, AW σ w ∧ OKP T ∧ Z32 T ∧ u = stX w 48 T
theorem TW.rf {σ : St} (h : OKP (pX σ 48)) : TW σ σ := ⟨σ, _, fun _ _ _ _ => rfl, h, Z_pX σ 48, (stX_self σ 48).symm⟩
theorem sh_add2 (z : Int) (f1 f2 a b : Nat) : Int32.ofInt z + (nI a - nI b) * nI f1 * nI f2 = Int32.ofInt (z + ((f1 * f2 : Nat) : Int) * ((a : Int) - (b : Int))) := by
  rw [← sh_add, show nI (f1 * f2) = nI f1 * nI f2 by rw [pk_mul], Int32.mul_assoc, Int32.mul_comm (nI a - nI b)]
set_option maxHeartbeats 4000000 in
set_option maxRecDepth 100000 in
theorem c_X4_share {B : Bk} {σ : St} {q c up : Nat} (hq : q < 2 ^ 32) (hc : c < 2 ^ 32) (hup : up < 2) (g : GX σ) (h48 : OKP (pX σ 48)) : MC yX4_share cX4_share 9 (some .int) 5 B [.ref (B.1 17), .int (nI q), .int (nI c), .int (nI up)] σ (rI (shG2 (KX σ (σ 17 2)) (pX σ 45) q c up) (TW σ)) := by
  obtain ⟨hx, hp, hd⟩ := id g
  have hb := hx.1
  obtain ⟨b1, b2, b3, b4, b5, b6, b7, b8⟩ := kd3' hb
  obtain ⟨o0, o1, o2, o3, o4, o5⟩ := id hx.2.1.1
  have n7 : σ (σ 17 2) 7 ≤ 4 := o0
  have n8 : σ (σ 17 2) 8 ≤ 6 := o1
  have n9 : σ (σ 17 2) 9 ≤ 5 := o2
  have hc5 : ∀ i, i < 5 → σ (45 + 1) i < 12 := fun i h => by have := hp.1 i h; rw [pX_c h] at this; exact this
  have hm5 : σ 45 2 < 32 := hp.2.1
  have hd3 : σ 45 3 ≤ 2 ^ 20 := hd
  have hgc : ∀ i, i < σ (σ 17 2) 8 → σ (σ 17 2 + 2) i < 12 := fun i h => (o4 i h).1
  have e02 : KX σ (σ 17 2) 0 2 = σ (σ 17 2) 9 := rfl
  have e01 : KX σ (σ 17 2) 0 1 = σ (σ 17 2) 8 := rfl
  have o : OKK (KX σ (σ 17 2)) := hx.2.1.1
  have s17 : ∀ {T : Nat → Nat}, stX σ 48 T 17 = σ 17 := fun {T} => stX_o (by decide) (by decide) (by decide)
  have h64 : 2 ^ σ (σ 17 2) 8 ≤ 2 ^ 6 := Nat.pow_le_pow_right (by decide) n8
  refine MC_int RX4 [some (.ref (B.1 17)), some (.int (nI q)), some (.int (nI c)), some (.int (nI up)), none, none, none, none, none] 5 (by decide +kernel) rfl rfl (Nat.le_of_ble_eq_true rfl) (fun E Q hret => ?_)
  refine V_aload_n (pc := 0) dX4_share_0 rfl ?_
  refine V_iload_n (pc := 1) dX4_share_1 rfl ?_
  refine V_callV_I (pc := 2) ff_X4_isGround ml_X4_94 (by first | rfl | assumption) rfl rfl (c_X4_isGround (by assumption) (by first | omega | assumption | exact and1_lt _ | exact nb_p) (by omega)) dX4_share_2 rfl rfl (by decide) (by decide) (Nat.le_of_ble_eq_true rfl) ?_
  refine V_ifb_eq (pc := 5) 16 dX4_share_5 (by decide) (fun h_5 => ?_) (fun h_5 => ?_)
  · skip
    refine V_iconst (pc := 16) 4294967295 dX4_share_16 (by decide) ?_
    exact hret _ _ _ _ dX4_share_17 (rI_mk (by unfold shG2; rw [if_neg (by omega)]) (TW.rf h48))
  · skip
    refine V_aload_n (pc := 8) dX4_share_8 rfl ?_
    refine V_iload_n (pc := 9) dX4_share_9 rfl ?_
    refine V_callV_I (pc := 10) ff_X4_isChild ml_X4_115 (by first | rfl | assumption) rfl rfl (c_X4_isChild (by assumption) (by first | omega | assumption | exact and1_lt _ | exact nb_p) (by omega)) dX4_share_10 rfl rfl (by decide) (by decide) (Nat.le_of_ble_eq_true rfl) ?_
    refine V_ifb_ne (pc := 13) 18 dX4_share_13 (by decide) (fun h_13 => ?_) (fun h_13 => ?_)
    · skip
      refine V_iconst (pc := 18) 1 dX4_share_18 (by decide) ?_
      refine V_aload_n (pc := 19) dX4_share_19 rfl ?_
      refine G_X4_shore (pc := 20) (by first | rfl | assumption) fl_X4_16 dX4_share_20 ?_
      refine G_X0_grounds (pc := 23) (by first | rfl | assumption) fl_X4_88 dX4_share_23 ?_
      refine V_ishl (pc := 26) dX4_share_26 (by first | omega | assumption | exact and1_lt _ | exact nb_p) ?_
      refine V_istore (pc := 27) dX4_share_27 (by decide) rfl ?_
      refine V_iconst (pc := 29) 0 dX4_share_29 (by decide) ?_
      refine V_istore (pc := 30) dX4_share_30 (by decide) rfl ?_
      have L_32 : ∀ (m : Nat) (i : Nat) (w : St) (T : Nat → Nat), 2 ^ σ (σ 17 2) 8 - i = m → i ≤ 2 ^ σ (σ 17 2) 8 → AW σ w → (∀ j, j < i → w 19 j = wbW (KX σ (σ 17 2)) (pX σ 45) j c) → OKP T → Z32 T → V E B RX4 cX4_share 9 5 Q 32 [some (.ref (B.1 17)), some (.int (nI q)), some (.int (nI c)), some (.int (nI up)), some (.int (nI (2 ^ σ (σ 17 2) 8))), some (.int (nI i)), none, none, none] [] (stX w 48 T) := by
        intro m
        induction m using Nat.strongRecOn with
        | _ m ih =>
          intro i w T hm hi hA hw hT hzT
          obtain ⟨g1, g2, g3, g4, g5⟩ := AW_ok hA g
          refine V_iload (pc := 32) dX4_share_32 rfl ?_
          refine V_iload (pc := 34) dX4_share_34 rfl ?_
          refine V_icmp_ge (pc := 36) 61 dX4_share_36 (by decide) (by first | omega | assumption | exact and1_lt _ | exact nb_p) (by first | omega | assumption | exact and1_lt _ | exact nb_p) (fun h_36 => ?_) (fun h_36 => ?_)
          · skip
            have hw2 : ∀ j, j < 2 ^ σ (σ 17 2) 8 → w 19 j = wbW (KX σ (σ 17 2)) (pX σ 45) j c := fun j hj => hw j (by omega)
            have ww : ∀ k, k ≠ 48 → k ≠ 49 → k ≠ 50 → stX w 48 T k = w k := fun k h1 h2 h3 => stX_o h1 h2 h3
            have hN : stX w 48 T (σ 17 2) 8 = σ (σ 17 2) 8 := by rw [ww _ (by omega) (by omega) (by omega), g5]
            refine V_iconst (pc := 61) 0 dX4_share_61 (by decide) ?_
            refine V_istore (pc := 62) dX4_share_62 (by decide) rfl ?_
            refine V_iconst (pc := 64) 0 dX4_share_64 (by decide) ?_
            refine V_istore (pc := 65) dX4_share_65 (by decide) rfl ?_
            have L_67 : ∀ (m : Nat) (i : Nat) (y z : Option Value), 2 ^ σ (σ 17 2) 8 - i = m → i ≤ 2 ^ σ (σ 17 2) 8 → okS [none, none, none, none, none, none, some (.int 0), y] 7 = true → okS [none, none, none, none, none, none, none, some (.int 0), z] 8 = true → V E B RX4 cX4_share 9 5 Q 67 [some (.ref (B.1 17)), some (.int (nI q)), some (.int (nI c)), some (.int (nI up)), some (.int (nI (2 ^ σ (σ 17 2) 8))), some (.int (Int32.ofInt (shF (KX σ (σ 17 2)) (pX σ 45) q c i))), some (.int (nI i)), y, z] [] (stX w 48 T) := by
              intro m
              induction m using Nat.strongRecOn with
              | _ m ih =>
                intro i y z hm2 hi2 hy hz2
                refine V_iload (pc := 67) dX4_share_67 rfl ?_
                refine V_iload (pc := 69) dX4_share_69 rfl ?_
                refine V_icmp_ge (pc := 71) 150 dX4_share_71 (by decide) (by first | omega | assumption | exact and1_lt _ | exact nb_p) (by first | omega | assumption | exact and1_lt _ | exact nb_p) (fun h_71 => ?_) (fun h_71 => ?_)
                · skip
                  have hie : i = 2 ^ σ (σ 17 2) 8 := by omega
                  subst hie
                  have hz := shF_le o hp (show c < 5 by omega) (show q < KX σ (σ 17 2) 0 1 by omega) (2 ^ KX σ (σ 17 2) 0 1) (Nat.le_refl _)
                  rw [e01] at hz
                  have hfl := fct_le (σ (σ 17 2) 8) n8
                  refine V_iload (pc := 150) dX4_share_150 rfl ?_
                  refine V_aload_n (pc := 152) dX4_share_152 rfl ?_
                  refine G_X4_shore (pc := 153) (by first | rfl | assumption) fl_X4_16 dX4_share_153 ?_
                  rw [ww 17 (by decide) (by decide) (by decide), g4]
                  refine G_X0_grounds (pc := 156) hb fl_X4_88 dX4_share_156 ?_
                  rw [hN]
                  refine V_callS_I (pc := 159) ff_X4_factorial ml_X4_206 (c_X4_factorial (by omega)) dX4_share_159 rfl rfl (by decide) (by decide) (Nat.le_of_ble_eq_true rfl) ?_
                  refine V_iload_n (pc := 162) dX4_share_162 rfl ?_
                  refine V_callS (pc := 163) ff_X4_inLeastTerms ml_X4_209 (c_X4_inLeastTerms (ofInt_abs (by omega)) (by omega) hfl.2 (by omega) hup) dX4_share_163 rfl rfl (by decide) (by decide) (Nat.le_of_ble_eq_true rfl) (fun v u hu => ?_)
                  obtain ⟨rfl, rfl⟩ := hu
                  simp only [Option.toList, List.cons_append, List.nil_append]
                  exact hret _ _ _ _ dX4_share_166 (by refine ⟨?_, w, T, hA, hT, hzT, rfl⟩; unfold shG2 shG; rw [if_pos (show q < KX σ (σ 17 2) 0 1 ∧ c < KX σ (σ 17 2) 0 2 from And.intro (by omega) (by omega)), e01]; by_cases hu0 : up = 0; rw [if_pos hu0, if_pos hu0]; rw [if_neg hu0, if_neg hu0, nI_iN])
                · skip
                  refine V_iload (pc := 74) dX4_share_74 rfl ?_
                  refine V_iload_n (pc := 76) dX4_share_76 rfl ?_
                  refine V_ishr (pc := 77) dX4_share_77 (by first | omega | assumption | exact and1_lt _ | exact nb_p) (by first | omega | assumption | exact and1_lt _ | exact nb_p) ?_
                  refine V_iconst (pc := 78) 1 dX4_share_78 (by decide) ?_
                  refine V_iand (pc := 79) dX4_share_79 ?_
                  refine V_if_ne (pc := 80) 144 dX4_share_80 (by decide) (Nat.lt_trans (and1_lt _) (by decide)) (fun h_80 => ?_) (fun h_80 => ?_)
                  · skip
                    have hbit : i.testBit q = true := tb_and.mp (by have := and1_z (i / 2 ^ q); omega)
                    refine V_iinc (pc := 144) 1 dX4_share_144 (by decide) rfl (by decide) rfl ?_
                    refine V_goto (pc := 147) 67 dX4_share_147 (by decide) ?_
                    have e := fun y2 z2 h1 h2 => ih _ (by omega) (i + 1) y2 z2 rfl (by omega) h1 h2
                    unfold shF at e
                    first | (simp only [if_pos hbit] at e; exact e _ _ hy hz2) | (simp only [if_neg hbit] at e; exact e _ _ rfl rfl)
                  · skip
                    have hbit : ¬ i.testBit q = true := fun z => by have := tb_and.mpr z; omega
                    have hon := on_le (σ (σ 17 2) 8) n8 i (by omega) q (by omega) (Bool.eq_false_iff.mpr hbit)
                    have hor := or_lt (g := q) (show i < 2 ^ σ (σ 17 2) 8 by omega) (by omega)
                    refine V_aload_n (pc := 83) dX4_share_83 rfl ?_
                    refine G_X4_worths (pc := 84) (by first | rfl | assumption) fl_X4_54 dX4_share_84 ?_
                    refine V_iload (pc := 87) dX4_share_87 rfl ?_
                    refine V_iconst (pc := 89) 1 dX4_share_89 (by decide) ?_
                    refine V_iload_n (pc := 90) dX4_share_90 rfl ?_
                    refine V_ishl (pc := 91) dX4_share_91 (by first | omega | assumption | exact and1_lt _ | exact nb_p) ?_
                    refine V_ior (pc := 92) dX4_share_92 ?_
                    refine V_callS_I (pc := 93) ff_X4_at ml_X4_101 (c_X4_atI (n := 64) rfl (by omega)) dX4_share_93 rfl rfl (by decide) (by decide) (Nat.le_of_ble_eq_true rfl) ?_
                    rw [ww 19 (by decide) (by decide) (by decide), hw2 _ hor]
                    refine V_aload_n (pc := 96) dX4_share_96 rfl ?_
                    refine G_X4_worths (pc := 97) (by first | rfl | assumption) fl_X4_54 dX4_share_97 ?_
                    refine V_iload (pc := 100) dX4_share_100 rfl ?_
                    refine V_callS_I (pc := 102) ff_X4_at ml_X4_101 (c_X4_atI (n := 64) rfl (by omega)) dX4_share_102 rfl rfl (by decide) (by decide) (Nat.le_of_ble_eq_true rfl) ?_
                    rw [ww 19 (by decide) (by decide) (by decide), hw2 i (by omega)]
                    refine V_isubR (pc := 105) dX4_share_105 ?_
                    refine V_istore (pc := 106) dX4_share_106 (by decide) rfl ?_
                    refine V_iload (pc := 108) dX4_share_108 rfl ?_
                    refine V_callS_I (pc := 110) ff_J6_bitCount_0f7a4 ml_X4_201 (c_J6_bitCount_0f7a4 (by omega)) dX4_share_110 rfl rfl (by decide) (by decide) (Nat.le_of_ble_eq_true rfl) ?_
                    refine V_istore (pc := 113) dX4_share_113 (by decide) rfl ?_
                    refine V_iload (pc := 115) dX4_share_115 rfl ?_
                    refine V_iload (pc := 117) dX4_share_117 rfl ?_
                    refine V_iload (pc := 119) dX4_share_119 rfl ?_
                    refine V_callS_I (pc := 121) ff_X4_factorial ml_X4_206 (c_X4_factorial (by omega)) dX4_share_121 rfl rfl (by decide) (by decide) (Nat.le_of_ble_eq_true rfl) ?_
                    refine V_imulR (pc := 124) dX4_share_124 ?_
                    refine V_aload_n (pc := 125) dX4_share_125 rfl ?_
                    refine G_X4_shore (pc := 126) (by first | rfl | assumption) fl_X4_16 dX4_share_126 ?_
                    rw [ww 17 (by decide) (by decide) (by decide), g4]
                    refine G_X0_grounds (pc := 129) hb fl_X4_88 dX4_share_129 ?_
                    rw [hN]
                    refine V_iconst (pc := 132) 1 dX4_share_132 (by decide) ?_
                    refine V_isub (pc := 133) dX4_share_133 (by omega) ?_
                    refine V_iload (pc := 134) dX4_share_134 rfl ?_
                    refine V_isub (pc := 136) dX4_share_136 (by omega) ?_
                    refine V_callS_I (pc := 137) ff_X4_factorial ml_X4_206 (c_X4_factorial (by omega)) dX4_share_137 rfl rfl (by decide) (by decide) (Nat.le_of_ble_eq_true rfl) ?_
                    refine V_imulR (pc := 140) dX4_share_140 ?_
                    refine V_iaddR (pc := 141) dX4_share_141 ?_
                    rw [sh_add2]
                    refine V_istore (pc := 142) dX4_share_142 (by decide) rfl ?_
                    refine V_iinc (pc := 144) 1 dX4_share_144 (by decide) rfl (by decide) rfl ?_
                    refine V_goto (pc := 147) 67 dX4_share_147 (by decide) ?_
                    have e := fun y2 z2 h1 h2 => ih _ (by omega) (i + 1) y2 z2 rfl (by omega) h1 h2
                    unfold shF at e
                    first | (simp only [if_pos hbit] at e; exact e _ _ hy hz2) | (simp only [if_neg hbit] at e; exact e _ _ rfl rfl)
            exact L_67 _ 0 none none rfl (Nat.zero_le _) rfl rfl
          · skip
            refine V_aload_n (pc := 39) dX4_share_39 rfl ?_
            refine G_X4_worths (pc := 40) (by first | rfl | assumption) fl_X4_54 dX4_share_40 ?_
            refine V_iload (pc := 43) dX4_share_43 rfl ?_
            refine V_aload_n (pc := 45) dX4_share_45 rfl ?_
            refine V_iload_n (pc := 46) dX4_share_46 rfl ?_
            refine V_iload (pc := 47) dX4_share_47 rfl ?_
            refine V_callV (pc := 49) ff_X4_weightWith ml_X4_198 (by first | rfl | assumption) rfl rfl (c_X4_weightWith (T := T) g1 (by omega) (by omega)) dX4_share_49 rfl rfl (by decide) (by decide) (Nat.le_of_ble_eq_true rfl) (fun v u hu => ?_)
            obtain ⟨⟨T2, hT2, hz2, rfl⟩, rfl⟩ := hu
            simp only [Option.toList, List.cons_append, List.nil_append]
            rw [g2, g3]
            refine V_callS_V (pc := 52) ff_X4_lay ml_X4_67 (c_X4_layI (n := 64) rfl (by omega)) dX4_share_52 rfl rfl (by decide) (by decide) (Nat.le_of_ble_eq_true rfl) ?_
            rw [pt_stX (by decide) (by decide) (by decide)]
            refine V_iinc (pc := 55) 1 dX4_share_55 (by decide) rfl (by decide) rfl ?_
            refine V_goto (pc := 58) 32 dX4_share_58 (by decide) ?_
            exact ih _ (by omega) (i + 1) _ _ rfl (by omega) (fun k h1 h2 h3 => by rw [pt_o h1]; exact hA k h1 h2 h3) (fun j hj => by
              rcases (show j < i ∨ j = i by omega) with z | z
              · rw [pt_ne (by omega)]; exact hw j z
              · rw [z, pt_at]) hT2 hz2
      rw [Nat.one_mul]
      have e := L_32 _ 0 σ (pX σ 48) rfl (Nat.zero_le _) (fun _ _ _ _ => rfl) (fun j hj => absurd hj (by omega)) h48 (Z_pX σ 48)
      rw [stX_self] at e
      exact e
    · skip
      refine V_iconst (pc := 16) 4294967295 dX4_share_16 (by decide) ?_
      exact hret _ _ _ _ dX4_share_17 (rI_mk (by unfold shG2; rw [if_neg (by omega)]) (TW.rf h48))
