/-! a day of the class -/
section LK
variable {E : EE} {B : Bk} {own : String} {cc : ByteArray} {nL d : Nat} {Q : State → Prop} {pc : Nat} {lv : List (Option Value)} {st : List Value} {σ : St}
theorem V_lookK {a m : Nat} {dflt off : Int} {ps : Array (Int × Int)} {len : Nat} (tgt : Nat) (hd : decode cc pc = .ok (.lookupswitch dflt ps, len)) (he : a = m) (hp : (ps.toList.zip (ps.toList.drop 1)).all (fun (a, next) => a.1 < next.1) = true) (ho : Op.lookupswitch.offset ps.toList dflt (nI m).toInt = off) (ht : (pc : Int) + off = (tgt : Int)) (k : V E B own cc nL d Q tgt lv st σ) : V E B own cc nL d Q pc lv (.int (nI a) :: st) σ := fun ok H locs ls hI hl => by
  subst he
  exact lv_lookup ok.1 ok.2.1 hd hp ho ht (k ok H locs ls hI hl)
theorem off_d {d x : Int} : ∀ {l : List (Int × Int)}, (∀ q ∈ l, q.1 ≠ x) → Op.lookupswitch.offset l d x = d
  | [], _ => rfl
  | (a, o) :: r, h => by
    rw [Op.lookupswitch.offset_cons, if_neg (by first | exact h (a, o) List.mem_cons_self | exact fun q => h (a, o) List.mem_cons_self q.symm)]
    exact off_d (fun q hq => h q (List.mem_cons_of_mem _ hq))
theorem V_lookO {a : Nat} {dflt : Int} {ps : Array (Int × Int)} {len : Nat} (tgt : Nat) (hd : decode cc pc = .ok (.lookupswitch dflt ps, len)) (hp : (ps.toList.zip (ps.toList.drop 1)).all (fun (a, next) => a.1 < next.1) = true) (ha : a < 2 ^ 31) (h : ∀ q ∈ ps.toList, q.1 ≠ (a : Int)) (ht : (pc : Int) + dflt = (tgt : Int)) (k : V E B own cc nL d Q tgt lv st σ) : V E B own cc nL d Q pc lv (.int (nI a) :: st) σ := fun ok H locs ls hI hl =>
  lv_lookup ok.1 ok.2.1 hd hp (off_d (by rw [nI_toInt ha]; exact h)) ht (k ok H locs ls hI hl)
end LK
theorem chA_bit {P : Nat → Nat} {v j : Nat} : ∀ {n : Nat}, (chA P v n).testBit j = true ↔ j < n ∧ P j = v
  | 0 => by
    unfold chA
    rw [Nat.zero_testBit]
    constructor
    · intro h; cases h
    · rintro ⟨h, -⟩; omega
  | n + 1 => by
    unfold chA
    rw [Nat.testBit_or, Bool.or_eq_true, chA_bit (n := n)]
    by_cases hn : P n = v
    · rw [if_pos hn, Nat.one_mul, Nat.testBit_two_pow, decide_eq_true_eq]
      constructor
      · rintro (h | h)
        · exact ⟨by omega, h.2⟩
        · exact ⟨by omega, by rw [← h]; exact hn⟩
      · rintro ⟨h1, h2⟩
        rcases (show j < n ∨ n = j by omega) with q | q
        · exact Or.inl ⟨q, h2⟩
        · exact Or.inr q
    · rw [if_neg hn, Nat.zero_testBit]
      constructor
      · rintro (h | h)
        · exact ⟨by omega, h.2⟩
        · cases h
      · rintro ⟨h1, h2⟩
        rcases (show j < n ∨ j = n by omega) with q | q
        · exact Or.inl ⟨q, h2⟩
        · rw [q] at h2; exact absurd h2 hn
theorem tog_0 {P : Nat → Nat} {v : Nat} : ∀ {n : Nat}, tog P v n = 0 ↔ ∀ j, j < n → P j ≠ v
  | 0 => ⟨fun _ j h => absurd h (Nat.not_lt_zero _), fun _ => rfl⟩
  | n + 1 => by
    unfold tog
    constructor
    · intro h j hj
      by_cases hn : P n = v
      · rw [if_pos hn] at h; omega
      · rw [if_neg hn] at h
        rcases (show j < n ∨ j = n by omega) with q | q
        · exact (tog_0 (n := n)).mp (by omega) j q
        · rw [q]; exact hn
    · intro h
      rw [if_neg (h n (by omega)), (tog_0 (n := n)).mpr (fun j hj => h j (by omega))]
theorem tog_1 {P : Nat → Nat} {v c : Nat} : ∀ {n : Nat}, c < n → P c = v → (tog P v n = 1 ↔ ∀ j, j < n → P j = v → j = c)
  | 0, hc, _ => absurd hc (Nat.not_lt_zero _)
  | n + 1, hc, hv => by
    unfold tog
    by_cases hn : P n = v
    · rw [if_pos hn]
      rcases (show c < n ∨ c = n by omega) with q | q
      · constructor
        · intro h
          have h0 := (tog_0 (P := P) (v := v) (n := n)).mp (by omega)
          exact absurd hv (h0 c q)
        · intro h
          have := h n (by omega) hn
          omega
      · constructor
        · intro h j hj hjv
          have h0 := (tog_0 (P := P) (v := v) (n := n)).mp (by omega)
          rcases (show j < n ∨ j = n by omega) with q2 | q2
          · exact absurd hjv (h0 j q2)
          · omega
        · intro h
          rw [(tog_0 (n := n)).mpr (fun j hj e => by have := h j (by omega) e; omega)]
    · rw [if_neg hn, Nat.add_zero, tog_1 (n := n) (by rcases (show c < n ∨ c = n by omega) with q | q; exact q; rw [q] at hv; exact absurd hv hn) hv]
      constructor
      · intro h j hj hjv
        rcases (show j < n ∨ j = n by omega) with q | q
        · exact h j q hjv
        · rw [q] at hjv; exact absurd hjv hn
      · intro h j hj hjv
        exact h j (by omega) hjv
theorem ch_tog {P : Nat → Nat} {c n : Nat} (hc : c < n) : chA P (P c) n = 1 * 2 ^ c ↔ tog P (P c) n = 1 := by
  rw [tog_1 hc rfl, Nat.one_mul]
  constructor
  · intro h j hj hv
    have : (chA P (P c) n).testBit j = true := chA_bit.mpr ⟨hj, hv⟩
    rw [h, Nat.testBit_two_pow, decide_eq_true_eq] at this
    exact this.symm
  · intro h
    apply Nat.eq_of_testBit_eq
    intro j
    rw [Nat.testBit_two_pow]
    by_cases e : c = j
    · rw [decide_eq_true e]
      exact chA_bit.mpr ⟨by omega, by rw [e]⟩
    · rw [decide_eq_false e, Bool.eq_false_iff]
      intro q
      obtain ⟨h1, h2⟩ := chA_bit.mp q
      exact e (h j h1 h2).symm
theorem chA_lt {P : Nat → Nat} {v : Nat} : ∀ {n : Nat}, n ≤ 5 → chA P v n < 2 ^ 5
  | 0, _ => by show 0 < 2 ^ 5; decide
  | n + 1, h => by
    unfold chA
    refine Nat.or_lt_two_pow (chA_lt (by omega)) ?_
    split
    · rw [Nat.one_mul]; exact Nat.pow_lt_pow_right (by decide) (by omega)
    · decide
theorem Z_dri {P : Nat → Nat} (h : Z32 P) (w : Nat) : ∀ {n : Nat}, n ≤ 5 → Z32 (dri w P n)
  | 0, _ => h
  | n + 1, hn => Z_fup (Z_dri h w (by omega)) (by omega)
theorem Z_lrn {K : St} (o : OKK K) {P : Nat → Nat} (h : Z32 P) {th c : Nat} (hc : c < K 0 2) : Z32 (lrn K th c P) := fun i hi => by
  rw [lrn_o o hc (by omega)]; exact h i hi
theorem Z_lrF {K : St} (o : OKK K) {P : Nat → Nat} (h : Z32 P) (th : Nat) {n : Nat} (hn : n ≤ K 0 2) : Z32 (lrF K th P n) := fun i hi => by
  rw [lrF_o o (by omega) hn]; exact h i hi
theorem Z_psn {K : St} (o : OKK K) {P : Nat → Nat} (h : Z32 P) (w th : Nat) : Z32 (psn K w th P) := Z_fup (Z_lrF o (Z_dri h w o.2.2.1) th (Nat.le_refl _)) (by decide)
theorem Z_itr {K : St} (o : OKK K) {P : Nat → Nat} (h : Z32 P) (th : Nat) : ∀ n, Z32 (itr K th P n)
  | 0 => h
  | n + 1 => Z_psn o (Z_itr o h th n) _ _
theorem Z_unl {P : Nat → Nat} (h : Z32 P) {c : Nat} (hc : c < 5) : ∀ {n : Nat}, n ≤ 5 → Z32 (unl P c n)
  | 0, _ => h
  | n + 1, hn => Z_fup (Z_unl h hc (by omega)) (by omega)
theorem gIn_ok {σ : St} {b : Nat} (h : OKX σ b) (th : Nat) {cell : Nat} (hc : cell < 12) : grA (KX σ b) th cell = if gIn σ b cell ≠ 4294967287 ∧ th.testBit (gIn σ b cell) = true then gIn σ b cell else 4294967287 := by
  obtain ⟨hb, ⟨o, -, hd⟩, hg⟩ := h
  have o1 := o.2.1
  have key : ∀ n g, (∀ j, g ≤ j → j < g + n → ¬ (th.testBit j = true ∧ KX σ b 2 j = cell)) → grF (KX σ b) th cell g n = 4294967287 := by
    intro n
    induction n with
    | zero => intro g _; rfl
    | succ n ih =>
      intro g hj
      unfold grF
      rw [if_neg (hj g (by omega) (by omega))]
      exact ih (g + 1) (fun j h1 h2 => hj j (by omega) (by omega))
  have key2 : ∀ n g j, g ≤ j → j < g + n → (∀ i, g ≤ i → i < j → ¬ (th.testBit i = true ∧ KX σ b 2 i = cell)) → (th.testBit j = true ∧ KX σ b 2 j = cell) → grF (KX σ b) th cell g n = j := by
    intro n
    induction n with
    | zero => intro g j h1 h2; omega
    | succ n ih =>
      intro g j h1 h2 h3 h4
      unfold grF
      by_cases e : g = j
      · rw [e, if_pos h4]
      · rw [if_neg (h3 g (by omega) (by omega))]
        exact ih (g + 1) j (by omega) (by omega) (fun i q1 q2 => h3 i (by omega) q2) h4
  unfold grA
  have e1 : KX σ b 0 1 = σ b 8 := rfl
  rcases hg cell hc with ⟨h1, h2⟩ | ⟨g, h1, h2, h3⟩
  · have hn : gIn σ b cell = 4294967287 := by unfold gIn; rw [if_neg (by omega)]
    rw [hn, if_neg (fun q => q.1 rfl)]
    exact key _ 0 (fun j _ hj q => h2 j (by rw [← e1]; omega) q.2)
  · have hn : gIn σ b cell = g := by unfold gIn; rw [if_pos ⟨hc, by omega⟩, h2]; omega
    rw [hn]
    have hu : ∀ j, j < σ b 8 → KX σ b 2 j = cell → j = g := fun j hj q => hd j g (by rw [e1]; exact hj) (by rw [e1]; exact h1) (by rw [q]; exact h3.symm)
    by_cases ht : th.testBit g = true
    · rw [if_pos ⟨by rw [e1] at o1; omega, ht⟩]
      exact key2 _ 0 g (by omega) (by rw [e1]; omega) (fun i _ hi q => by have := hu i (by omega) q.2; omega) ⟨ht, h3⟩
    · rw [if_neg (fun q => ht q.2)]
      exact key _ 0 (fun j _ hj q => by have := hu j (by rw [← e1]; omega) q.2; rw [this] at q; exact ht q.1)
theorem gIn_lt {σ : St} {b : Nat} (h : OKX σ b) (cell : Nat) : gIn σ b cell = 4294967287 ∨ gIn σ b cell < σ b 8 := by
  by_cases hc : cell < 12
  · rcases h.2.2 cell hc with ⟨h1, h2⟩ | ⟨g, h1, h2, h3⟩
    · left; unfold gIn; rw [if_neg (by omega)]
    · right; unfold gIn; rw [if_pos ⟨hc, by omega⟩, h2]; omega
  · left; unfold gIn; rw [if_neg (by omega)]
theorem by7 {σ : St} {b : Nat} (h : OKX σ b) : ∀ i, i < 12 → σ (b + 7) i ≤ 6 := fun i hi => by
  have o1 : σ b 8 ≤ 6 := h.2.1.1.2.1
  rcases h.2.2 i hi with ⟨h1, -⟩ | ⟨g, h1, h2, -⟩ <;> omega
theorem mm_tgh : ∀ gk, gk < 4 → ∀ ck, ck < 4 → ∀ kn, kn < 10 → (if nI 0 < (if nI (kn + gnx gk ck kn) < nI 9 then nI (kn + gnx gk ck kn) else nI 9) then (if nI (kn + gnx gk ck kn) < nI 9 then nI (kn + gnx gk ck kn) else nI 9) else nI 0) = nI (tgh gk kn (if ck = 1 then 1 else 0)) := by decide +kernel
theorem and1_z (a : Nat) : a &&& 1 = 0 ∨ a &&& 1 = 1 := by
  have := @Nat.and_le_right a 1
  omega
def ldP (P : Nat → Nat) (cell : Nat) : Nat → Nat := fun i => if i = 0 then cell else if i < 5 then P i else 0
def ldN (P : Nat → Nat) (n : Nat) : Nat → Nat := fun i => if 6 ≤ i ∧ i < 6 + n then 0 else P i
set_option maxHeartbeats 4000000 in
set_option maxRecDepth 100000 in
theorem c_X3_letDown {B : Bk} {σ : St} {k c : Nat} (hk : kd k = (6, 0)) : MC yX3_letDown cX3_letDown 3 none 1 B [.ref (B.1 k), .int (nI c)] σ (dV (stX σ k (ldP (pX σ k) c))) := by
  obtain ⟨k1, k2, k3, k4, k5⟩ := kd6' hk
  refine MC_void RX3 [some (.ref (B.1 k)), some (.int (nI c)), none] 1 (by decide +kernel) rfl rfl (Nat.le_of_ble_eq_true rfl) (fun E Q hret => ?_)
  refine V_iconst (pc := 0) 0 dX3_letDown_0 (by decide) ?_
  refine V_istore_n (pc := 1) dX3_letDown_1 (by decide) rfl ?_
  have L_2 : ∀ (m : Nat) (i : Nat), 25 - i = m → i ≤ 25 → V E B RX3 cX3_letDown 3 1 Q 2 [some (.ref (B.1 k)), some (.int (nI c)), some (.int (nI i))] [] (stX σ k (ldN (pX σ k) i)) := by
    intro m
    induction m using Nat.strongRecOn with
    | _ m ih =>
      intro i hm hi
      refine V_iload_n (pc := 2) dX3_letDown_2 rfl ?_
      refine V_aload_n (pc := 3) dX3_letDown_3 rfl ?_
      refine G_X3_known (pc := 4) (by first | rfl | assumption) fl_X3_15 dX3_letDown_4 ?_
      refine V_alen (pc := 7) k2 (by decide) (by decide) dX3_letDown_7 ?_
      refine V_icmp_ge (pc := 8) 24 dX3_letDown_8 (by decide) (by first | omega | assumption | exact and1_lt _ | exact nb_p) (by first | omega | assumption | exact and1_lt _ | exact nb_p) (fun h_8 => ?_) (fun h_8 => ?_)
      · skip
        refine V_aload_n (pc := 24) dX3_letDown_24 rfl ?_
        refine V_iconst (pc := 25) 0 dX3_letDown_25 (by decide) ?_
        refine P_X3_moored (pc := 26) (by first | rfl | assumption) fl_X3_39 dX3_letDown_26 ?_
        rw [stX_pm]
        refine V_aload_n (pc := 29) dX3_letDown_29 rfl ?_
        refine V_iconst (pc := 30) 0 dX3_letDown_30 (by decide) ?_
        refine P_X3_day (pc := 31) (by first | rfl | assumption) fl_X3_42 dX3_letDown_31 ?_
        rw [stX_pd]
        refine V_aload_n (pc := 34) dX3_letDown_34 rfl ?_
        refine G_X3_cells (pc := 35) (by first | rfl | assumption) fl_X3_9 dX3_letDown_35 ?_
        refine V_iconst (pc := 38) 0 dX3_letDown_38 (by decide) ?_
        refine V_iload_n (pc := 39) dX3_letDown_39 rfl ?_
        refine V_callSN_V (pc := 40) ff_X4_lay (List.mem_of_getElem? (i := 2) rfl) (c_X4_layI k1 (by decide)) dX3_letDown_40 rfl rfl (by decide) (by decide) (Nat.le_of_ble_eq_true rfl) ?_
        rw [stX_pc _ _ _ _ (by decide)]
        exact hret _ _ _ dX3_letDown_43 (dV_mk (congrArg (stX σ k) (by
  funext q
  unfold fup ldN ldP
  rw [show i = 25 by omega]
  by_cases h : 32 ≤ q
  · have hz := Z_pX σ k q h
    (repeat' split) <;> first | rfl | (exfalso; omega) | exact hz
  · (repeat' split) <;> first | rfl | (exfalso; omega))))
      · skip
        refine V_aload_n (pc := 11) dX3_letDown_11 rfl ?_
        refine G_X3_known (pc := 12) (by first | rfl | assumption) fl_X3_15 dX3_letDown_12 ?_
        refine V_iload_n (pc := 15) dX3_letDown_15 rfl ?_
        refine V_iconst (pc := 16) 0 dX3_letDown_16 (by decide) ?_
        refine V_iast (pc := 17) k2 (by first | omega | assumption | exact and1_lt _ | exact nb_p) dX3_letDown_17 ?_
        refine V_iinc (pc := 18) 1 dX3_letDown_18 (by decide) rfl (by decide) rfl ?_
        refine V_goto (pc := 21) 2 dX3_letDown_21 (by decide) ?_
        rw [stX_pn _ _ _ _ (by omega), show fup (ldN (pX σ k) i) (6 + i) 0 = ldN (pX σ k) (i + 1) by
          funext q
          unfold fup ldN
          (repeat' split) <;> first | rfl | (exfalso; omega)]
        exact ih _ (by omega) (i + 1) rfl (by omega)
  have e := L_2 _ 0 rfl (by omega)
  rw [show ldN (pX σ k) 0 = pX σ k by funext q; unfold ldN; rw [if_neg (by omega)], stX_self] at e
  exact e
def bgN (P f : Nat → Nat) (n : Nat) : Nat → Nat := fun i => if i < n then f i else ldP P 0 i
set_option maxHeartbeats 4000000 in
set_option maxRecDepth 100000 in
theorem c_X3_begin {B : Bk} {σ : St} {k b : Nat} (hk : kd k = (6, 0)) (hb : kd b = (3, 0)) (hn : σ b 9 ≤ 5) : MC yX3_begin cX3_begin 3 none 2 B [.ref (B.1 k), .ref (B.1 b)] σ (dV (stX σ k (bgN (pX σ k) (σ (b + 5)) (σ b 9)))) := by
  obtain ⟨k1, k2, k3, k4, k5⟩ := kd6' hk
  obtain ⟨b1, b2, b3, b4, b5, b6, b7, b8⟩ := kd3' hb
  refine MC_void RX3 [some (.ref (B.1 k)), some (.ref (B.1 b)), none] 1 (by decide +kernel) rfl rfl (Nat.le_of_ble_eq_true rfl) (fun E Q hret => ?_)
  refine V_aload_n (pc := 0) dX3_begin_0 rfl ?_
  refine V_iconst (pc := 1) 0 dX3_begin_1 (by decide) ?_
  refine V_callV_V (pc := 2) ff_X3_letDown ml_X3_18 (by first | rfl | assumption) rfl rfl (c_X3_letDown hk) dX3_begin_2 rfl rfl (by decide) (by decide) (Nat.le_of_ble_eq_true rfl) ?_
  refine V_iconst (pc := 5) 0 dX3_begin_5 (by decide) ?_
  refine V_istore_n (pc := 6) dX3_begin_6 (by decide) rfl ?_
  have L_7 : ∀ (m : Nat) (i : Nat), σ b 9 - i = m → i ≤ σ b 9 → V E B RX3 cX3_begin 3 2 Q 7 [some (.ref (B.1 k)), some (.ref (B.1 b)), some (.int (nI i))] [] (stX σ k (bgN (pX σ k) (σ (b + 5)) i)) := by
    intro m
    induction m using Nat.strongRecOn with
    | _ m ih =>
      intro i hm hi
      have hc9 : stX σ k (bgN (pX σ k) (σ (b + 5)) i) b 9 = σ b 9 := by rw [stX_o (by omega) (by omega) (by omega)]
      refine V_iload_n (pc := 7) dX3_begin_7 rfl ?_
      refine V_aload_n (pc := 8) dX3_begin_8 rfl ?_
      refine G_X0_children (pc := 9) (by first | rfl | assumption) fl_X3_22 dX3_begin_9 ?_
      rw [hc9]
      refine V_icmp_ge (pc := 12) 37 dX3_begin_12 (by decide) (by first | omega | assumption | exact and1_lt _ | exact nb_p) (by first | omega | assumption | exact and1_lt _ | exact nb_p) (fun h_12 => ?_) (fun h_12 => ?_)
      · skip
        exact hret _ _ _ dX3_begin_37 (dV_mk (by rw [show i = σ b 9 by omega]))
      · skip
        refine V_aload_n (pc := 15) dX3_begin_15 rfl ?_
        refine G_X3_cells (pc := 16) (by first | rfl | assumption) fl_X3_9 dX3_begin_16 ?_
        refine V_iload_n (pc := 19) dX3_begin_19 rfl ?_
        refine V_aload_n (pc := 20) dX3_begin_20 rfl ?_
        refine G_X0_childCells (pc := 21) (by first | rfl | assumption) fl_X3_28 dX3_begin_21 ?_
        refine V_iload_n (pc := 24) dX3_begin_24 rfl ?_
        refine V_callSN_I (pc := 25) ff_X4_at (List.mem_of_getElem? (i := 3) rfl) (c_X4_atI b5 (by omega)) dX3_begin_25 rfl rfl (by decide) (by decide) (Nat.le_of_ble_eq_true rfl) ?_
        rw [stX_o (by omega) (by omega) (by omega)]
        refine V_callSN_V (pc := 28) ff_X4_lay (List.mem_of_getElem? (i := 2) rfl) (c_X4_layI k1 (by omega)) dX3_begin_28 rfl rfl (by decide) (by decide) (Nat.le_of_ble_eq_true rfl) ?_
        refine V_iinc (pc := 31) 1 dX3_begin_31 (by decide) rfl (by decide) rfl ?_
        refine V_goto (pc := 34) 7 dX3_begin_34 (by decide) ?_
        rw [stX_pc _ _ _ _ (by omega), show fup (bgN (pX σ k) (σ (b + 5)) i) i (σ (b + 5) i) = bgN (pX σ k) (σ (b + 5)) (i + 1) by
          funext q
          unfold fup bgN
          by_cases h : q = i
          · rw [if_pos h, if_pos (by omega), h]
          · rw [if_neg h]
            by_cases h2 : q < i
            · rw [if_pos h2, if_pos (by omega)]
            · rw [if_neg h2, if_neg (by omega)]]
        exact ih _ (by omega) (i + 1) rfl (by omega)
  have e := L_7 _ 0 rfl (by omega)
  rw [show bgN (pX σ k) (σ (b + 5)) 0 = ldP (pX σ k) 0 by funext q; unfold bgN; rw [if_neg (by omega)]] at e
  exact e
set_option maxHeartbeats 4000000 in
set_option maxRecDepth 100000 in
theorem c_X3_drift2 {B : Bk} {σ : St} {k c w : Nat} {P : Nat → Nat} (hk : kd k = (6, 0)) (hp : OKP P) (hc : c < 5) (hw : w ≤ 4) : MC yX3_drift cX3_drift 3 none 1 B [.ref (B.1 k), .int (nI c), .int (nI w)] (stX σ k P) (dV (stX σ k (fup P c (if (P 5).testBit c = true then P c else onw (P c) w)))) := by
  obtain ⟨k1, k2, k3, k4, k5⟩ := kd6' hk
  have hp5 := hp.2.1
  have hpc := hp.1 c hc
  refine MC_void RX3 [some (.ref (B.1 k)), some (.int (nI c)), some (.int (nI w))] 0 (by decide +kernel) rfl rfl (Nat.le_of_ble_eq_true rfl) (fun E Q hret => ?_)
  refine V_aload_n (pc := 0) dX3_drift_0 rfl ?_
  refine V_iload_n (pc := 1) dX3_drift_1 rfl ?_
  refine V_callV_I (pc := 2) ff_X3_isMoored ml_X3_71 (by first | rfl | assumption) rfl rfl (c_X3_isMoored hk (by rw [stX_m]; omega) (by omega)) dX3_drift_2 rfl rfl (by decide) (by decide) (Nat.le_of_ble_eq_true rfl) ?_
  rw [stX_m]
  refine V_ifb_ne (pc := 5) 28 dX3_drift_5 (by decide) (fun h_5 => ?_) (fun h_5 => ?_)
  · skip
    exact hret _ _ _ dX3_drift_28 (dV_mk (by first | (rw [if_pos h_5]; congr 1; funext q; unfold fup; split; (rename_i e; rw [e]); rfl) | (rw [stX_pc _ _ _ _ hc, if_neg h_5])))
  · skip
    refine V_aload_n (pc := 8) dX3_drift_8 rfl ?_
    refine G_X3_cells (pc := 9) (by first | rfl | assumption) fl_X3_9 dX3_drift_9 ?_
    refine V_iload_n (pc := 12) dX3_drift_12 rfl ?_
    refine V_aload_n (pc := 13) dX3_drift_13 rfl ?_
    refine G_X3_cells (pc := 14) (by first | rfl | assumption) fl_X3_9 dX3_drift_14 ?_
    refine V_iload_n (pc := 17) dX3_drift_17 rfl ?_
    refine V_callSN_I (pc := 18) ff_X4_at (List.mem_of_getElem? (i := 3) rfl) (c_X4_atI k1 hc) dX3_drift_18 rfl rfl (by decide) (by decide) (Nat.le_of_ble_eq_true rfl) ?_
    rw [stX_c _ _ _ hc]
    refine V_iload_n (pc := 21) dX3_drift_21 rfl ?_
    refine V_callSN_I (pc := 22) ff_X4_beside (List.mem_of_getElem? (i := 4) rfl) (c_X4_beside (by omega) (by omega)) dX3_drift_22 rfl rfl (by decide) (by decide) (Nat.le_of_ble_eq_true rfl) ?_
    refine V_callSN_V (pc := 25) ff_X4_lay (List.mem_of_getElem? (i := 2) rfl) (c_X4_layI k1 hc) dX3_drift_25 rfl rfl (by decide) (by decide) (Nat.le_of_ble_eq_true rfl) ?_
    exact hret _ _ _ dX3_drift_28 (dV_mk (by first | (rw [if_pos h_5]; congr 1; funext q; unfold fup; split; (rename_i e; rw [e]); rfl) | (rw [stX_pc _ _ _ _ hc, if_neg h_5])))
abbrev mlB (P : Nat → Nat) (c kind n : Nat) : Prop := (kind = 2 → P 31 % 2 = 1) ∧ (kind = 3 → tog P (P c) n = 1)
set_option maxHeartbeats 4000000 in
set_option maxRecDepth 100000 in
theorem c_X3_mayLearn2 {B : Bk} {σ : St} {k c kind n : Nat} {P : Nat → Nat} (hk : kd k = (6, 0)) (hz : Z32 P) (hp : OKP P) (hd : P 31 < 2 ^ 31) (hc : c < n) (hn : n ≤ 5) (hkk : kind < 4) : MC yX3_mayLearn cX3_mayLearn 4 (some .boolean) 2 B [.ref (B.1 k), .int (nI c), .int (nI kind), .int (nI n)] (stX σ k P) (dI (if mlB P c kind n then 1 else 0) (stX σ k P)) := by
  obtain ⟨k1, k2, k3, k4, k5⟩ := kd6' hk
  have hpc := hp.1 c (by omega)
  have hcl := chA_lt (P := P) (v := P c) hn
  have h2c : 1 * 2 ^ c < 2 ^ 5 := by rw [Nat.one_mul]; exact Nat.pow_lt_pow_right (by decide) (by omega)
  refine MC_bool RX3 [some (.ref (B.1 k)), some (.int (nI c)), some (.int (nI kind)), some (.int (nI n))] 0 (by decide +kernel) rfl rfl (Nat.le_of_ble_eq_true rfl) (fun E Q hret => ?_)
  refine V_iload_n (pc := 0) dX3_mayLearn_0 rfl ?_
  by_cases hs_1_2 : kind = 2
  · skip
    refine V_lookK (pc := 1) (m := 2) 28 dX3_mayLearn_1 hs_1_2 (by decide) rfl (by decide) ?_
    refine V_aload_n (pc := 28) dX3_mayLearn_28 rfl ?_
    refine G_X3_day (pc := 29) (by first | rfl | assumption) fl_X3_42 dX3_mayLearn_29 ?_
    rw [stX_d]
    refine V_iconst (pc := 32) 2 dX3_mayLearn_32 (by decide) ?_
    refine V_irem (pc := 33) dX3_mayLearn_33 (by first | omega | assumption | exact and1_lt _ | exact nb_p) (by first | omega | assumption | exact and1_lt _ | exact nb_p) (by first | omega | assumption | exact and1_lt _ | exact nb_p) ?_
    refine V_if_eq (pc := 34) 41 dX3_mayLearn_34 (by decide) (by first | omega | assumption | exact and1_lt _ | exact nb_p) (fun h_34 => ?_) (fun h_34 => ?_)
    · skip
      refine V_iconst (pc := 41) 0 dX3_mayLearn_41 (by decide) ?_
      exact hret _ _ _ _ dX3_mayLearn_42 (by first | decide | omega | (split <;> omega)) (dI_mk (by first | rw [if_pos ⟨fun _ => by omega, fun _ => by omega⟩] | rw [if_neg (fun q => by have := q.1 (by assumption); omega)]) rfl)
    · skip
      refine V_iconst (pc := 37) 1 dX3_mayLearn_37 (by decide) ?_
      refine V_goto (pc := 38) 42 dX3_mayLearn_38 (by decide) ?_
      exact hret _ _ _ _ dX3_mayLearn_42 (by first | decide | omega | (split <;> omega)) (dI_mk (by first | rw [if_pos ⟨fun _ => by omega, fun _ => by omega⟩] | rw [if_neg (fun q => by have := q.1 (by assumption); omega)]) rfl)
  by_cases hs_1_3 : kind = 3
  · skip
    refine V_lookK (pc := 1) (m := 3) 43 dX3_mayLearn_1 hs_1_3 (by decide) rfl (by decide) ?_
    refine V_aload_n (pc := 43) dX3_mayLearn_43 rfl ?_
    refine V_aload_n (pc := 44) dX3_mayLearn_44 rfl ?_
    refine G_X3_cells (pc := 45) (by first | rfl | assumption) fl_X3_9 dX3_mayLearn_45 ?_
    refine V_iload_n (pc := 48) dX3_mayLearn_48 rfl ?_
    refine V_callSN_I (pc := 49) ff_X4_at (List.mem_of_getElem? (i := 3) rfl) (c_X4_atI k1 (by omega)) dX3_mayLearn_49 rfl rfl (by decide) (by decide) (Nat.le_of_ble_eq_true rfl) ?_
    rw [stX_c _ _ _ (by omega)]
    refine V_iload_n (pc := 52) dX3_mayLearn_52 rfl ?_
    refine V_callV_I (pc := 53) ff_X3_childrenIn ml_X3_78 (by first | rfl | assumption) rfl rfl (c_X3_childrenIn hk hn (by omega) (fun i hi => by rw [stX_c _ _ _ hi]; exact hp.1 i hi)) dX3_mayLearn_53 rfl rfl (by decide) (by decide) (Nat.le_of_ble_eq_true rfl) ?_
    rw [pX_stX _ _ hz]
    refine V_iconst (pc := 56) 1 dX3_mayLearn_56 (by decide) ?_
    refine V_iload_n (pc := 57) dX3_mayLearn_57 rfl ?_
    refine V_ishl (pc := 58) dX3_mayLearn_58 (by first | omega | assumption | exact and1_lt _ | exact nb_p) ?_
    refine V_icmp_ne (pc := 59) 66 dX3_mayLearn_59 (by decide) (by omega) (by omega) (fun h_59 => ?_) (fun h_59 => ?_)
    · skip
      refine V_iconst (pc := 66) 0 dX3_mayLearn_66 (by decide) ?_
      exact hret _ _ _ _ dX3_mayLearn_67 (by first | decide | omega | (split <;> omega)) (dI_mk (by first | rw [if_neg (fun q => h_59 ((ch_tog hc).mpr (q.2 (by assumption))))] | rw [if_pos (And.intro (fun _ => by omega) (fun _ => (ch_tog hc).mp h_59))]) rfl)
    · skip
      refine V_iconst (pc := 62) 1 dX3_mayLearn_62 (by decide) ?_
      refine V_goto (pc := 63) 67 dX3_mayLearn_63 (by decide) ?_
      exact hret _ _ _ _ dX3_mayLearn_67 (by first | decide | omega | (split <;> omega)) (dI_mk (by first | rw [if_neg (fun q => h_59 ((ch_tog hc).mpr (q.2 (by assumption))))] | rw [if_pos (And.intro (fun _ => by omega) (fun _ => (ch_tog hc).mp h_59))]) rfl)
  refine V_lookO (pc := 1) 68 dX3_mayLearn_1 (by decide) (by first | omega | assumption | exact and1_lt _ | exact nb_p) (by intro q hq; simp only [List.mem_cons, List.not_mem_nil, or_false] at hq; rcases hq with rfl | rfl <;> omega) (by decide) ?_
  refine V_iconst (pc := 68) 1 dX3_mayLearn_68 (by decide) ?_
  exact hret _ _ _ _ dX3_mayLearn_69 (by first | decide | omega | (split <;> omega)) (dI_mk (by rw [if_pos ⟨fun _ => by omega, fun _ => by omega⟩]) rfl)
def lrX (σ : St) (b th c kind : Nat) (P : Nat → Nat) : Nat → Nat := if grA (KX σ b) th (P c) ≠ 4294967287 then fup P (6 + 5 * c + KX σ b 3 (grA (KX σ b) th (P c))) (tgh (KX σ b 4 (grA (KX σ b) th (P c))) (P (6 + 5 * c + KX σ b 3 (grA (KX σ b) th (P c)))) (if kind = 1 then 1 else 0)) else P
set_option maxHeartbeats 4000000 in
set_option maxRecDepth 100000 in
theorem c_X3_learn2 {B : Bk} {σ : St} {k b c kind th : Nat} {P : Nat → Nat} (hk : kd k = (6, 0)) (h : OKX σ b) (hp : OKP P) (hc : c < 5) (hkk : kind < 4) (hth : th < 64) : MC yX3_learn cX3_learn 9 none 2 B [.ref (B.1 k), .int (nI c), .int (nI kind), .ref (B.1 b), .int (nI th)] (stX σ k P) (dV (stX σ k (lrX σ b th c kind P))) := by
  obtain ⟨k1, k2, k3, k4, k5⟩ := kd6' hk
  have hb := h.1
  obtain ⟨b1, b2, b3, b4, b5, b6, b7, b8⟩ := kd3' hb
  obtain ⟨o0, o1, o2, o3, o4, o5⟩ := h.2.1.1
  have hpc := hp.1 c hc
  have so : ∀ q, b ≤ q → q < b + 8 → stX σ k P q = σ q := fun q h1 h2 => stX_o (by omega) (by omega) (by omega)
  have hg0 := gIn_lt h (P c)
  have hgi : gIn (stX σ k P) b (P c) = gIn σ b (P c) := by unfold gIn; rw [so (b + 7) (by omega) (by omega)]
  have e1 : KX σ b 0 1 = σ b 8 := rfl
  have hgr := gIn_ok h th hpc
  refine MC_void RX3 [some (.ref (B.1 k)), some (.int (nI c)), some (.int (nI kind)), some (.ref (B.1 b)), some (.int (nI th)), none, none, none, none] 4 (by decide +kernel) rfl rfl (Nat.le_of_ble_eq_true rfl) (fun E Q hret => ?_)
  refine V_aload_n (pc := 0) dX3_learn_0 rfl ?_
  refine V_aload_n (pc := 1) dX3_learn_1 rfl ?_
  refine G_X3_cells (pc := 2) (by first | rfl | assumption) fl_X3_9 dX3_learn_2 ?_
  refine V_iload_n (pc := 5) dX3_learn_5 rfl ?_
  refine V_callSN_I (pc := 6) ff_X4_at (List.mem_of_getElem? (i := 3) rfl) (c_X4_atI k1 hc) dX3_learn_6 rfl rfl (by decide) (by decide) (Nat.le_of_ble_eq_true rfl) ?_
  rw [stX_c _ _ _ hc]
  refine V_callV_I (pc := 9) ff_X0_groundIn ml_X3_81 (by first | rfl | assumption) rfl rfl (c_X0_groundIn hb (by omega) (by rw [so (b + 7) (by omega) (by omega)]; exact by7 h)) dX3_learn_9 rfl rfl (by decide) (by decide) (Nat.le_of_ble_eq_true rfl) ?_
  rw [hgi]
  refine V_istore (pc := 12) dX3_learn_12 (by decide) rfl ?_
  refine V_iload (pc := 14) dX3_learn_14 rfl ?_
  refine V_if_lt (pc := 16) 29 dX3_learn_16 (by decide) (by rw [e1] at o1; omega) (fun h_16 => ?_) (fun h_16 => ?_)
  · skip
    exact hret _ _ _ dX3_learn_29 (dV_mk (by unfold lrX; first | (rw [hgr, if_neg (fun q => q rfl)]; done) | (rw [if_neg (by omega)] at hgr; rw [hgr, if_neg (fun q => q rfl)])))
  · skip
    refine V_iload (pc := 19) dX3_learn_19 rfl ?_
    refine V_iload (pc := 21) dX3_learn_21 rfl ?_
    refine V_ishr (pc := 23) dX3_learn_23 (by omega) (by rw [e1] at o1; omega) ?_
    refine V_iconst (pc := 24) 1 dX3_learn_24 (by decide) ?_
    refine V_iand (pc := 25) dX3_learn_25 ?_
    refine V_if_ne (pc := 26) 30 dX3_learn_26 (by decide) (Nat.lt_trans (and1_lt _) (by decide)) (fun h_26 => ?_) (fun h_26 => ?_)
    · skip
      have hgl : gIn σ b (P c) < σ b 8 := by omega
      have htb : th.testBit (gIn σ b (P c)) = true := tb_and.mp (by have := and1_z (th / 2 ^ gIn σ b (P c)); omega)
      rw [if_pos ⟨by rw [e1] at o1; omega, htb⟩] at hgr
      have h4 := o4 _ (by rw [e1]; exact hgl)
      rw [KX3, KX4] at h4
      have hkn := hp.2.2 (c * 5 + σ (b + 3) (gIn σ b (P c))) (by omega)
      refine V_aload_n (pc := 30) dX3_learn_30 rfl ?_
      refine G_X0_subjects (pc := 31) (by first | rfl | assumption) fl_X3_84 dX3_learn_31 ?_
      refine V_iload (pc := 34) dX3_learn_34 rfl ?_
      refine V_callSN_I (pc := 36) ff_X4_at (List.mem_of_getElem? (i := 3) rfl) (c_X4_atI b3 (by rw [e1] at o1; omega)) dX3_learn_36 rfl rfl (by decide) (by decide) (Nat.le_of_ble_eq_true rfl) ?_
      rw [so (b + 3) (by omega) (by omega)]
      refine V_istore (pc := 39) dX3_learn_39 (by decide) rfl ?_
      refine V_aload_n (pc := 41) dX3_learn_41 rfl ?_
      refine V_iload_n (pc := 42) dX3_learn_42 rfl ?_
      refine V_iload (pc := 43) dX3_learn_43 rfl ?_
      refine V_callV_I (pc := 45) ff_X3_known ml_X3_45 (by first | rfl | assumption) rfl rfl (c_X3_known hk hc (by omega)) dX3_learn_45 rfl rfl (by decide) (by decide) (Nat.le_of_ble_eq_true rfl) ?_
      rw [stX_n _ _ _ (by omega)]
      refine V_istore (pc := 48) dX3_learn_48 (by decide) rfl ?_
      refine V_iload (pc := 50) dX3_learn_50 rfl ?_
      refine V_aload_n (pc := 52) dX3_learn_52 rfl ?_
      refine G_X0_groundKinds (pc := 53) (by first | rfl | assumption) fl_X3_87 dX3_learn_53 ?_
      refine V_iload (pc := 56) dX3_learn_56 rfl ?_
      refine V_callSN_I (pc := 58) ff_X4_at (List.mem_of_getElem? (i := 3) rfl) (c_X4_atI b4 (by rw [e1] at o1; omega)) dX3_learn_58 rfl rfl (by decide) (by decide) (Nat.le_of_ble_eq_true rfl) ?_
      rw [so (b + 4) (by omega) (by omega)]
      refine V_iload_n (pc := 61) dX3_learn_61 rfl ?_
      refine V_iload (pc := 62) dX3_learn_62 rfl ?_
      refine V_callSN_I (pc := 64) ff_X4_gain (List.mem_of_getElem? (i := 5) rfl) (c_X4_gain (by omega) (by omega) (by omega)) dX3_learn_64 rfl rfl (by decide) (by decide) (Nat.le_of_ble_eq_true rfl) ?_
      refine V_iadd (pc := 67) dX3_learn_67 ?_
      refine V_istore (pc := 68) dX3_learn_68 (by decide) rfl ?_
      refine V_aload_n (pc := 70) dX3_learn_70 rfl ?_
      refine G_X3_known (pc := 71) (by first | rfl | assumption) fl_X3_15 dX3_learn_71 ?_
      refine V_iload_n (pc := 74) dX3_learn_74 rfl ?_
      refine V_iconst (pc := 75) 5 dX3_learn_75 (by decide) ?_
      refine V_imul (pc := 76) dX3_learn_76 ?_
      refine V_iload (pc := 77) dX3_learn_77 rfl ?_
      refine V_iadd (pc := 79) dX3_learn_79 ?_
      refine V_iconst (pc := 80) 0 dX3_learn_80 (by decide) ?_
      refine V_bipush (pc := 81) 9 dX3_learn_81 (by decide) ?_
      refine V_iload (pc := 83) dX3_learn_83 rfl ?_
      refine V_mmin (pc := 85) ml_X3_94 dX3_learn_85 (by decide) (Nat.le_of_ble_eq_true rfl) ?_
      refine V_mmax (pc := 88) ml_X3_99 dX3_learn_88 (by decide) (Nat.le_of_ble_eq_true rfl) ?_
      rw [mm_tgh _ (by omega) kind hkk _ (by omega)]
      refine V_callSN_V (pc := 91) ff_X4_lay (List.mem_of_getElem? (i := 2) rfl) (c_X4_layI k2 (by omega)) dX3_learn_91 rfl rfl (by decide) (by decide) (Nat.le_of_ble_eq_true rfl) ?_
      exact hret _ _ _ dX3_learn_94 (dV_mk (by rw [stX_pn _ _ _ _ (by omega), lrX, hgr, if_pos (show gIn σ b (P c) ≠ 4294967287 by rw [e1] at o1; omega), KX3, KX4, show 6 + 5 * c + σ (b + 3) (gIn σ b (P c)) = 6 + (c * 5 + σ (b + 3) (gIn σ b (P c))) by omega]))
    · skip
      have htb : ¬ th.testBit (gIn σ b (P c)) = true := fun q => by have := tb_and.mpr q; omega
      rw [if_neg (fun q => htb q.2)] at hgr
      exact hret _ _ _ dX3_learn_29 (dV_mk (by unfold lrX; first | (rw [hgr, if_neg (fun q => q rfl)]; done) | (rw [if_neg (by omega)] at hgr; rw [hgr, if_neg (fun q => q rfl)])))
set_option maxHeartbeats 4000000 in
set_option maxRecDepth 100000 in
theorem c_X3_pass2 {B : Bk} {σ : St} {k b z th : Nat} {P : Nat → Nat} (hk : kd k = (6, 0)) (h : OKX σ b) (hz : Z32 P) (hp : OKP P) (hz2 : z < 2) (hth : th < 64) (hd : P 31 + 1 < 2 ^ 31) : MC yX3_pass cX3_pass 7 none 3 B [.ref (B.1 k), .ref (B.1 b), .int (nI z), .int (nI th)] (stX σ k P) (dV (stX σ k (psn (KX σ b) (if z = 1 then wyO (KX σ b) (P 31) else 4) th P))) := by
  obtain ⟨k1, k2, k3, k4, k5⟩ := kd6' hk
  have hb := h.1
  obtain ⟨b1, b2, b3, b4, b5, b6, b7, b8⟩ := kd3' hb
  have o : OKK (KX σ b) := h.2.1.1
  have o2 : σ b 9 ≤ 5 := o.2.2.1
  obtain ⟨-, -, -, o3, o4, o5⟩ := id o
  have so : ∀ {P' : Nat → Nat} q, b ≤ q → q < b + 8 → stX σ k P' q = σ q := fun q h1 h2 => stX_o (by omega) (by omega) (by omega)
  refine MC_void RX3 [some (.ref (B.1 k)), some (.ref (B.1 b)), some (.int (nI z)), some (.int (nI th)), none, none, none] 3 (by decide +kernel) rfl rfl (Nat.le_of_ble_eq_true rfl) (fun E Q hret => ?_)
  have J_16 : ∀ (w : Nat), w = (if z = 1 then wyO (KX σ b) (P 31) else 4) → w ≤ 4 → V E B RX3 cX3_pass 7 3 Q 16 [some (.ref (B.1 k)), some (.ref (B.1 b)), some (.int (nI z)), some (.int (nI th)), none, none, none] [.int (nI w)] (stX σ k P) := by
    intro w hw hw4
    refine V_istore (pc := 16) dX3_pass_16 (by decide) rfl ?_
    refine V_iconst (pc := 18) 0 dX3_pass_18 (by decide) ?_
    refine V_istore (pc := 19) dX3_pass_19 (by decide) rfl ?_
    have L_21 : ∀ (m : Nat) (i : Nat), σ b 9 - i = m → i ≤ σ b 9 → V E B RX3 cX3_pass 7 3 Q 21 [some (.ref (B.1 k)), some (.ref (B.1 b)), some (.int (nI z)), some (.int (nI th)), some (.int (nI w)), some (.int (nI i)), none] [] (stX σ k (dri w P i)) := by
      intro m
      induction m using Nat.strongRecOn with
      | _ m ih =>
        intro i hm hi
        have hin := dri_o (w := w) (P := P) (n := i) (j := i) (Nat.le_refl _)
        have hi5 := dri_o (w := w) (P := P) (n := i) (j := 5) (by omega)
        have hc9 : stX σ k (dri w P i) b 9 = σ b 9 := by rw [so b (by omega) (by omega)]
        refine V_iload (pc := 21) dX3_pass_21 rfl ?_
        refine V_aload_n (pc := 23) dX3_pass_23 rfl ?_
        refine G_X0_children (pc := 24) (by first | rfl | assumption) fl_X3_22 dX3_pass_24 ?_
        rw [hc9]
        refine V_icmp_ge (pc := 27) 44 dX3_pass_27 (by decide) (by first | omega | assumption | exact and1_lt _ | exact nb_p) (by first | omega | assumption | exact and1_lt _ | exact nb_p) (fun h_27 => ?_) (fun h_27 => ?_)
        · skip
          refine V_iconst (pc := 44) 0 dX3_pass_44 (by decide) ?_
          refine V_istore (pc := 45) dX3_pass_45 (by decide) rfl ?_
          have L_47 : ∀ (m : Nat) (i : Nat) (y : Option Value), σ b 9 - i = m → i ≤ σ b 9 → okS [some (.int 0), y] 1 = true → V E B RX3 cX3_pass 7 3 Q 47 [some (.ref (B.1 k)), some (.ref (B.1 b)), some (.int (nI z)), some (.int (nI th)), some (.int (nI w)), some (.int (nI i)), y] [] (stX σ k (lrF (KX σ b) th (dri w P (σ b 9)) i)) := by
            intro m
            induction m using Nat.strongRecOn with
            | _ m ih =>
              intro j y hm2 hj hy
              have hc9 : stX σ k (lrF (KX σ b) th (dri w P (σ b 9)) j) b 9 = σ b 9 := by rw [so b (by omega) (by omega)]
              have hP2 := OKP_lrF o (OKP_dri hp w (show σ b 9 ≤ 5 from o2)) th (show j ≤ KX σ b 0 2 from hj)
              have hZ2 := Z_lrF o (Z_dri hz w (show σ b 9 ≤ 5 from o2)) th (show j ≤ KX σ b 0 2 from hj)
              have h31 : lrF (KX σ b) th (dri w P (σ b 9)) j 31 = P 31 := by rw [lrF_o o (by omega) (show j ≤ KX σ b 0 2 from hj), dri_o (by omega)]
              refine V_iload (pc := 47) dX3_pass_47 rfl ?_
              refine V_aload_n (pc := 49) dX3_pass_49 rfl ?_
              refine G_X0_children (pc := 50) (by first | rfl | assumption) fl_X3_22 dX3_pass_50 ?_
              rw [hc9]
              refine V_icmp_ge (pc := 53) 98 dX3_pass_53 (by decide) (by first | omega | assumption | exact and1_lt _ | exact nb_p) (by first | omega | assumption | exact and1_lt _ | exact nb_p) (fun h_53 => ?_) (fun h_53 => ?_)
              · skip
                refine V_aload_n (pc := 98) dX3_pass_98 rfl ?_
                refine V_dup (pc := 99) dX3_pass_99 rfl ?_
                refine G_X3_day (pc := 100) (by first | rfl | assumption) fl_X3_42 dX3_pass_100 ?_
                rw [stX_d]
                refine V_iconst (pc := 103) 1 dX3_pass_103 (by decide) ?_
                refine V_iadd (pc := 104) dX3_pass_104 ?_
                refine P_X3_day (pc := 105) (by first | rfl | assumption) fl_X3_42 dX3_pass_105 ?_
                exact hret _ _ _ dX3_pass_108 (dV_mk (by rw [stX_pd, show j = σ b 9 by omega, ← hw]; rfl))
              · skip
                refine V_aload_n (pc := 56) dX3_pass_56 rfl ?_
                refine G_X0_childKinds (pc := 57) (by first | rfl | assumption) fl_X3_60 dX3_pass_57 ?_
                refine V_iload (pc := 60) dX3_pass_60 rfl ?_
                refine V_callSN_I (pc := 62) ff_X4_at (List.mem_of_getElem? (i := 3) rfl) (c_X4_atI b6 (by omega)) dX3_pass_62 rfl rfl (by decide) (by decide) (Nat.le_of_ble_eq_true rfl) ?_
                rw [so (b + 6) (by omega) (by omega)]
                have hkj := o5 j (show j < σ b 9 by omega)
                rw [KX5] at hkj
                refine V_istore (pc := 65) dX3_pass_65 (by decide) rfl ?_
                refine V_aload_n (pc := 67) dX3_pass_67 rfl ?_
                refine V_iload (pc := 68) dX3_pass_68 rfl ?_
                refine V_iload (pc := 70) dX3_pass_70 rfl ?_
                refine V_aload_n (pc := 72) dX3_pass_72 rfl ?_
                refine G_X0_children (pc := 73) (by first | rfl | assumption) fl_X3_22 dX3_pass_73 ?_
                rw [hc9]
                refine V_callV_I (pc := 76) ff_X3_mayLearn ml_X3_63 (by first | rfl | assumption) rfl rfl (c_X3_mayLearn2 hk hZ2 hP2 (by rw [h31]; omega) (show j < σ b 9 by omega) o2 hkj) dX3_pass_76 rfl rfl (by decide) (by decide) (Nat.le_of_ble_eq_true rfl) ?_
                refine V_ifb_eq (pc := 79) 92 dX3_pass_79 (by decide) (fun h_79 => ?_) (fun h_79 => ?_)
                · skip
                  refine V_iinc (pc := 92) 1 dX3_pass_92 (by decide) rfl (by decide) rfl ?_
                  refine V_goto (pc := 95) 47 dX3_pass_95 (by decide) ?_
                  have e := ih _ (by omega) (j + 1) (some (.int (nI (σ (b + 6) j)))) rfl (by omega) rfl
                  rw [lrF_s] at e
                  generalize hT : lrF (KX σ b) th (dri w P (σ b 9)) j = T at *
                  first
                  | (unfold lrn at e
                     rw [if_neg (fun q => h_79 ⟨q.2.1, q.2.2⟩)] at e
                     exact e)
                  | (unfold lrX
                     unfold lrn at e
                     by_cases hg : grA (KX σ b) th (T j) ≠ 4294967287
                     · rw [if_pos hg]
                       rw [if_pos (show may (KX σ b) th j T from ⟨hg, h_79.1, h_79.2⟩)] at e
                       exact e
                     · rw [if_neg hg]
                       rw [if_neg (fun q => hg q.1)] at e
                       exact e)
                · skip
                  refine V_aload_n (pc := 82) dX3_pass_82 rfl ?_
                  refine V_iload (pc := 83) dX3_pass_83 rfl ?_
                  refine V_iload (pc := 85) dX3_pass_85 rfl ?_
                  refine V_aload_n (pc := 87) dX3_pass_87 rfl ?_
                  refine V_iload_n (pc := 88) dX3_pass_88 rfl ?_
                  refine V_callV_V (pc := 89) ff_X3_learn ml_X3_67 (by first | rfl | assumption) rfl rfl (c_X3_learn2 hk h hP2 (by omega) hkj hth) dX3_pass_89 rfl rfl (by decide) (by decide) (Nat.le_of_ble_eq_true rfl) ?_
                  refine V_iinc (pc := 92) 1 dX3_pass_92 (by decide) rfl (by decide) rfl ?_
                  refine V_goto (pc := 95) 47 dX3_pass_95 (by decide) ?_
                  have e := ih _ (by omega) (j + 1) (some (.int (nI (σ (b + 6) j)))) rfl (by omega) rfl
                  rw [lrF_s] at e
                  generalize hT : lrF (KX σ b) th (dri w P (σ b 9)) j = T at *
                  first
                  | (unfold lrn at e
                     rw [if_neg (fun q => h_79 ⟨q.2.1, q.2.2⟩)] at e
                     exact e)
                  | (unfold lrX
                     unfold lrn at e
                     by_cases hg : grA (KX σ b) th (T j) ≠ 4294967287
                     · rw [if_pos hg]
                       rw [if_pos (show may (KX σ b) th j T from ⟨hg, h_79.1, h_79.2⟩)] at e
                       exact e
                     · rw [if_neg hg]
                       rw [if_neg (fun q => hg q.1)] at e
                       exact e)
          rw [show i = σ b 9 by omega]
          exact L_47 _ 0 none rfl (by omega) rfl
        · skip
          refine V_aload_n (pc := 30) dX3_pass_30 rfl ?_
          refine V_iload (pc := 31) dX3_pass_31 rfl ?_
          refine V_iload (pc := 33) dX3_pass_33 rfl ?_
          refine V_callV_V (pc := 35) ff_X3_drift ml_X3_56 (by first | rfl | assumption) rfl rfl (c_X3_drift2 hk (OKP_dri hp w (by omega)) (by omega) hw4) dX3_pass_35 rfl rfl (by decide) (by decide) (Nat.le_of_ble_eq_true rfl) ?_
          refine V_iinc (pc := 38) 1 dX3_pass_38 (by decide) rfl (by decide) rfl ?_
          refine V_goto (pc := 41) 21 dX3_pass_41 (by decide) ?_
          have e := ih _ (by omega) (i + 1) rfl (by omega)
          rw [dri_s] at e
          rw [hin, hi5]
          exact e
    exact L_21 _ 0 rfl (by omega)
  refine V_iload_n (pc := 0) dX3_pass_0 rfl ?_
  refine V_if_eq (pc := 1) 15 dX3_pass_1 (by decide) (by first | omega | assumption | exact and1_lt _ | exact nb_p) (fun h_1 => ?_) (fun h_1 => ?_)
  · skip
    refine V_iconst (pc := 15) 4 dX3_pass_15 (by decide) ?_
    exact J_16 _ (by first | (rw [if_pos (by omega)]; done) | rw [if_neg (by omega)]) (by first | omega | exact wyO_le o _)
  · skip
    refine V_aload_n (pc := 4) dX3_pass_4 rfl ?_
    refine V_aload_n (pc := 5) dX3_pass_5 rfl ?_
    refine G_X3_day (pc := 6) (by first | rfl | assumption) fl_X3_42 dX3_pass_6 ?_
    rw [stX_d]
    refine V_callV_I (pc := 9) ff_X0_wayOn ml_X3_52 (by first | rfl | assumption) rfl rfl (c_X0_wayOn hb (by rw [KX_stX hk hb]; exact o) (by omega)) dX3_pass_9 rfl rfl (by decide) (by decide) (Nat.le_of_ble_eq_true rfl) ?_
    rw [KX_stX hk hb]
    refine V_goto (pc := 12) 16 dX3_pass_12 (by decide) ?_
    exact J_16 _ (by first | (rw [if_pos (by omega)]; done) | rw [if_neg (by omega)]) (by first | omega | exact wyO_le o _)
set_option maxHeartbeats 4000000 in
set_option maxRecDepth 100000 in
theorem c_X3_passDays2 {B : Bk} {σ : St} {k b n : Nat} {P : Nat → Nat} (hk : kd k = (6, 0)) (h : OKX σ b) (hz : Z32 P) (hp : OKP P) (hd : P 31 + n < 2 ^ 31) : MC yX3_passDays cX3_passDays 4 none 4 B [.ref (B.1 k), .ref (B.1 b), .int (nI n)] (stX σ k P) (dV (stX σ k (itr (KX σ b) 63 P n))) := by
  have o : OKK (KX σ b) := h.2.1.1
  refine MC_void RX3 [some (.ref (B.1 k)), some (.ref (B.1 b)), some (.int (nI n)), none] 1 (by decide +kernel) rfl rfl (Nat.le_of_ble_eq_true rfl) (fun E Q hret => ?_)
  refine V_iconst (pc := 0) 0 dX3_passDays_0 (by decide) ?_
  refine V_istore_n (pc := 1) dX3_passDays_1 (by decide) rfl ?_
  have L_2 : ∀ (m : Nat) (i : Nat), n - i = m → i ≤ n → V E B RX3 cX3_passDays 4 4 Q 2 [some (.ref (B.1 k)), some (.ref (B.1 b)), some (.int (nI n)), some (.int (nI i))] [] (stX σ k (itr (KX σ b) 63 P i)) := by
    intro m
    induction m using Nat.strongRecOn with
    | _ m ih =>
      intro i hm hi
      refine V_iload_n (pc := 2) dX3_passDays_2 rfl ?_
      refine V_iload_n (pc := 3) dX3_passDays_3 rfl ?_
      refine V_icmp_ge (pc := 4) 21 dX3_passDays_4 (by decide) (by first | omega | assumption | exact and1_lt _ | exact nb_p) (by first | omega | assumption | exact and1_lt _ | exact nb_p) (fun h_4 => ?_) (fun h_4 => ?_)
      · skip
        exact hret _ _ _ dX3_passDays_21 (dV_mk (by rw [show i = n by omega]))
      · skip
        refine V_aload_n (pc := 7) dX3_passDays_7 rfl ?_
        refine V_aload_n (pc := 8) dX3_passDays_8 rfl ?_
        refine V_iconst (pc := 9) 1 dX3_passDays_9 (by decide) ?_
        refine V_bipush (pc := 10) 63 dX3_passDays_10 (by decide) ?_
        refine V_callV_V (pc := 12) ff_X3_pass ml_X3_48 (by first | rfl | assumption) rfl rfl (c_X3_pass2 (z := 1) (th := 63) hk h (Z_itr o hz 63 i) (OKP_itr o hp 63 i) (by decide) (by decide) (by rw [itr_31 o]; omega)) dX3_passDays_12 rfl rfl (by decide) (by decide) (Nat.le_of_ble_eq_true rfl) ?_
        refine V_iinc (pc := 15) 1 dX3_passDays_15 (by decide) rfl (by decide) rfl ?_
        refine V_goto (pc := 18) 2 dX3_passDays_18 (by decide) ?_
        exact ih _ (by omega) (i + 1) rfl (by omega)
  exact L_2 _ 0 rfl (by omega)
def paP (σ : St) (b : Nat) (P : Nat → Nat) : Nat → Nat := fup (lrX σ b 63 0 0 (fup P 0 (if (P 5).testBit 0 = true then P 0 else onw (P 0) (wyO (KX σ b) (P 31))))) 31 (P 31 + 1)
theorem lrX_o {σ : St} {b th c kind : Nat} {P : Nat → Nat} (h : OKX σ b) (hc : c < 5) {j : Nat} (hj : j < 6 ∨ 31 ≤ j) : lrX σ b th c kind P j = P j := by
  unfold lrX
  split
  · rename_i hg
    have o := h.2.1.1
    have hl : grA (KX σ b) th (P c) < KX σ b 0 1 := by
      rcases grA_or o th (P c) with e | e
      · exact absurd e hg
      · exact e
    have h3 := (o.2.2.2.2.1 _ hl).2.1
    exact fup_o (by omega)
  · rfl
set_option maxHeartbeats 4000000 in
set_option maxRecDepth 100000 in
theorem c_X3_passAlone2 {B : Bk} {σ : St} {k b : Nat} {P : Nat → Nat} (hk : kd k = (6, 0)) (h : OKX σ b) (hp : OKP P) (hd : P 31 + 1 < 2 ^ 31) : MC yX3_passAlone cX3_passAlone 2 none 3 B [.ref (B.1 k), .ref (B.1 b)] (stX σ k P) (dV (stX σ k (paP σ b P))) := by
  obtain ⟨k1, k2, k3, k4, k5⟩ := kd6' hk
  have hb := h.1
  have o : OKK (KX σ b) := h.2.1.1
  have hw := wyO_le o (P 31)
  have hp0 := hp.1 0 (by decide)
  refine MC_void RX3 [some (.ref (B.1 k)), some (.ref (B.1 b))] 0 (by decide +kernel) rfl rfl (Nat.le_of_ble_eq_true rfl) (fun E Q hret => ?_)
  refine V_aload_n (pc := 0) dX3_passAlone_0 rfl ?_
  refine V_iconst (pc := 1) 0 dX3_passAlone_1 (by decide) ?_
  refine V_aload_n (pc := 2) dX3_passAlone_2 rfl ?_
  refine V_aload_n (pc := 3) dX3_passAlone_3 rfl ?_
  refine G_X3_day (pc := 4) (by first | rfl | assumption) fl_X3_42 dX3_passAlone_4 ?_
  rw [stX_d]
  refine V_callV_I (pc := 7) ff_X0_wayOn ml_X3_52 (by first | rfl | assumption) rfl rfl (c_X0_wayOn hb (by rw [KX_stX hk hb]; exact o) (by omega)) dX3_passAlone_7 rfl rfl (by decide) (by decide) (Nat.le_of_ble_eq_true rfl) ?_
  rw [KX_stX hk hb]
  refine V_callV_V (pc := 10) ff_X3_drift ml_X3_56 (by first | rfl | assumption) rfl rfl (c_X3_drift2 hk hp (by decide) hw) dX3_passAlone_10 rfl rfl (by decide) (by decide) (Nat.le_of_ble_eq_true rfl) ?_
  refine V_aload_n (pc := 13) dX3_passAlone_13 rfl ?_
  refine V_iconst (pc := 14) 0 dX3_passAlone_14 (by decide) ?_
  refine V_iconst (pc := 15) 0 dX3_passAlone_15 (by decide) ?_
  refine V_aload_n (pc := 16) dX3_passAlone_16 rfl ?_
  refine V_bipush (pc := 17) 63 dX3_passAlone_17 (by decide) ?_
  refine V_callV_V (pc := 19) ff_X3_learn ml_X3_67 (by first | rfl | assumption) rfl rfl (c_X3_learn2 hk h (OKP_fup hp (fun _ => by split; exact hp0; exact onw_lt hp0) (by omega) (by omega)) (by decide) (by decide) (by decide)) dX3_passAlone_19 rfl rfl (by decide) (by decide) (Nat.le_of_ble_eq_true rfl) ?_
  refine V_aload_n (pc := 22) dX3_passAlone_22 rfl ?_
  refine V_dup (pc := 23) dX3_passAlone_23 rfl ?_
  refine G_X3_day (pc := 24) (by first | rfl | assumption) fl_X3_42 dX3_passAlone_24 ?_
  rw [stX_d, lrX_o h (by decide) (by omega), fup_o (by decide)]
  refine V_iconst (pc := 27) 1 dX3_passAlone_27 (by decide) ?_
  refine V_iadd (pc := 28) dX3_passAlone_28 ?_
  refine P_X3_day (pc := 29) (by first | rfl | assumption) fl_X3_42 dX3_passAlone_29 ?_
  exact hret _ _ _ dX3_passAlone_32 (dV_mk (by rw [stX_pd]; rfl))
