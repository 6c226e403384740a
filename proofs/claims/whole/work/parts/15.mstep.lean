/-! copies; days to come; two pots that look alike -/
def cpy (σ : St) (k2 b k1 a n : Nat) : St := fun k j => if k = k2 ∧ b ≤ j ∧ j < b + n then σ k1 (a + (j - b)) else σ k j
theorem cpy_0 (σ : St) (k2 b k1 a : Nat) : cpy σ k2 b k1 a 0 = σ := by
  funext k j
  unfold cpy
  rw [if_neg (by omega)]
theorem cpy_o {σ : St} {k2 b k1 a n k : Nat} (h : k ≠ k2) : cpy σ k2 b k1 a n k = σ k := by
  funext j
  simp [cpy, h]
theorem cpy_s {σ : St} {k2 b k1 a n t j : Nat} (ht : t = b + n) (hj : j = a + n) (h : k1 ≠ k2 ∨ a + n < b ∨ b + n ≤ a + n) : pt (cpy σ k2 b k1 a n) k2 t (cpy σ k2 b k1 a n k1 j) = cpy σ k2 b k1 a (n + 1) := by
  subst ht; subst hj
  have e : cpy σ k2 b k1 a n k1 (a + n) = σ k1 (a + n) := by
    unfold cpy
    rw [if_neg (by omega)]
  rw [e]
  funext k i
  unfold pt cpy
  by_cases c1 : k = k2 ∧ i = b + n
  · rw [if_pos c1, if_pos ⟨c1.1, by omega, by omega⟩, c1.2, show b + n - b = n by omega]
  · rw [if_neg c1]
    by_cases c2 : k = k2 ∧ b ≤ i ∧ i < b + n
    · rw [if_pos c2, if_pos ⟨c2.1, by omega, by omega⟩]
    · rw [if_neg c2, if_neg (by omega)]
theorem pt_at (σ : St) (k i x : Nat) : pt σ k i x k i = x := by simp [pt]
theorem pt_ne {σ : St} {k i x k' i' : Nat} (h : k' ≠ k ∨ i' ≠ i) : pt σ k i x k' i' = σ k' i' := by
  unfold pt
  rw [if_neg (by omega)]
def cp32 (P Q : Nat → Nat) : Nat → Nat := fun i => if i < 32 then P i else Q i
theorem lay_stM (σ : St) : cpy σ 6 32 6 0 32 = stM σ 1 (cp32 (pM σ 0) (pM σ 1)) := by
  funext k j
  unfold cpy stM cp32 pM
  by_cases h : k = 6 ∧ 32 ≤ j
  · obtain ⟨rfl, h2⟩ := h
    by_cases h3 : j < 64
    · rw [if_pos ⟨rfl, h2, by omega⟩, if_pos ⟨rfl, by omega⟩, if_pos (by omega)]
    · rw [if_neg (by omega), if_pos ⟨rfl, by omega⟩, if_neg (by omega)]
      exact congrArg (σ 6) (by omega)
  · rw [if_neg (by omega), if_neg (by omega)]
def pd (K : St) (th : Nat) (P : Nat → Nat) : Nat → Nat := psn K (wyO K (P 31)) th P
def itr (K : St) (th : Nat) (P : Nat → Nat) : Nat → Nat → Nat
  | 0 => P
  | n + 1 => pd K th (itr K th P n)
theorem itr_s (K : St) (th : Nat) (P : Nat → Nat) (n : Nat) : itr K th P (n + 1) = pd K th (itr K th P n) := rfl
theorem OKP_itr {K : St} (o : OKK K) {P : Nat → Nat} (h : OKP P) (th : Nat) : ∀ n, OKP (itr K th P n)
  | 0 => h
  | n + 1 => OKP_psn o (OKP_itr o h th n) _ _
theorem itr_31 {K : St} (o : OKK K) (P : Nat → Nat) (th : Nat) : ∀ n, itr K th P n 31 = P 31 + n
  | 0 => rfl
  | n + 1 => by rw [itr_s, pd, psn_31 o, itr_31 o P th n]; omega
theorem itr_K {K K' : St} (h : KEq K K') (th : Nat) (P : Nat → Nat) : ∀ n, itr K th P n = itr K' th P n
  | 0 => rfl
  | n + 1 => by rw [itr_s, itr_s, pd, pd, itr_K h th P n, psn_K h, wyO_K h]
def PEq (nC : Nat) (P P' : Nat → Nat) : Prop := (∀ c, c < nC → P c = P' c) ∧ ∀ i, 5 ≤ i → i < 32 → P i = P' i
theorem PEq.rf {nC : Nat} {P : Nat → Nat} : PEq nC P P := ⟨fun _ _ => rfl, fun _ _ _ => rfl⟩
theorem PEq.symm {nC : Nat} {P P' : Nat → Nat} (h : PEq nC P P') : PEq nC P' P := ⟨fun c hc => (h.1 c hc).symm, fun i h1 h2 => (h.2 i h1 h2).symm⟩
theorem PEq.trans {nC : Nat} {P P' P2 : Nat → Nat} (h : PEq nC P P') (h' : PEq nC P' P2) : PEq nC P P2 := ⟨fun c hc => (h.1 c hc).trans (h'.1 c hc), fun i h1 h2 => (h.2 i h1 h2).trans (h'.2 i h1 h2)⟩
theorem PEq.up {nC : Nat} {P P' : Nat → Nat} (h : PEq nC P P') {i x x' : Nat} (hx : x = x') : PEq nC (fup P i x) (fup P' i x') := by
  subst hx
  refine ⟨fun c hc => ?_, fun j h1 h2 => ?_⟩
  · unfold fup; rw [h.1 c hc]
  · unfold fup; rw [h.2 j h1 h2]
theorem PEq_dri {nC : Nat} {P P' : Nat → Nat} (h : PEq nC P P') (w : Nat) : ∀ n, n ≤ nC → PEq nC (dri w P n) (dri w P' n)
  | 0, _ => h
  | n + 1, hn => by
    rw [dri_s, dri_s]
    exact (PEq_dri h w n (by omega)).up (by rw [h.2 5 (by omega) (by omega), h.1 n (by omega)])
theorem tog_cong {P P' : Nat → Nat} (cell : Nat) : ∀ n, (∀ c, c < n → P c = P' c) → tog P cell n = tog P' cell n
  | 0, _ => rfl
  | n + 1, h => by
    unfold tog
    rw [tog_cong cell n (fun c hc => h c (by omega)), h n (by omega)]
theorem PEq_lrn {K : St} (o : OKK K) {P P' : Nat → Nat} (h : PEq (K 0 2) P P') {th c : Nat} (hc : c < K 0 2) : PEq (K 0 2) (lrn K th c P) (lrn K th c P') := by
  obtain ⟨o0, o1, o2, o3, o4, o5⟩ := id o
  have e1 : P c = P' c := h.1 c hc
  have e2 : P 31 = P' 31 := h.2 31 (by omega) (by omega)
  have e3 : tog P (P' c) (K 0 2) = tog P' (P' c) (K 0 2) := tog_cong _ _ h.1
  unfold lrn may
  rw [e1, e2, e3]
  by_cases hm : grA K th (P' c) ≠ 4294967287 ∧ (K 5 c = 2 → P' 31 % 2 = 1) ∧ (K 5 c = 3 → tog P' (P' c) (K 0 2) = 1)
  · rw [if_pos hm, if_pos hm]
    have hg : grA K th (P' c) < K 0 1 := by
      rcases grA_or o th (P' c) with e | e
      · exact absurd e hm.1
      · exact e
    have h3 := (o4 _ hg).2.1
    exact h.up (by rw [h.2 _ (by omega) (by omega)])
  · rw [if_neg hm, if_neg hm]
    exact h
theorem PEq_lrF {K : St} (o : OKK K) {P P' : Nat → Nat} (h : PEq (K 0 2) P P') (th : Nat) : ∀ n, n ≤ K 0 2 → PEq (K 0 2) (lrF K th P n) (lrF K th P' n)
  | 0, _ => h
  | n + 1, hn => by rw [lrF_s, lrF_s]; exact PEq_lrn o (PEq_lrF o h th n (by omega)) (by omega)
theorem PEq_psn {K : St} (o : OKK K) {P P' : Nat → Nat} (h : PEq (K 0 2) P P') (w th : Nat) : PEq (K 0 2) (psn K w th P) (psn K w th P') := by
  have h2 := PEq_lrF o (PEq_dri h w (K 0 2) (Nat.le_refl _)) th (K 0 2) (Nat.le_refl _)
  unfold psn ps2
  exact h2.up (by rw [h2.2 31 (by omega) (by omega)])
theorem PEq_pd {K : St} (o : OKK K) {P P' : Nat → Nat} (h : PEq (K 0 2) P P') (th : Nat) : PEq (K 0 2) (pd K th P) (pd K th P') := by
  unfold pd
  rw [h.2 31 (by omega) (by omega)]
  exact PEq_psn o h _ _
theorem PEq_itr {K : St} (o : OKK K) {P P' : Nat → Nat} (h : PEq (K 0 2) P P') (th : Nat) : ∀ n, PEq (K 0 2) (itr K th P n) (itr K th P' n)
  | 0 => h
  | n + 1 => PEq_pd o (PEq_itr o h th n) th
theorem cp_lt {P Q : Nat → Nat} {i : Nat} (h : i < 32) : cp32 P Q i = P i := by
  unfold cp32
  rw [if_pos h]
theorem cp_PEq (nC : Nat) (h : nC ≤ 5) (P Q : Nat → Nat) : PEq nC (cp32 P Q) P := ⟨fun c hc => cp_lt (by omega), fun i h1 h2 => cp_lt h2⟩
theorem cp_OKP {P : Nat → Nat} (h : OKP P) (Q : Nat → Nat) : OKP (cp32 P Q) := by
  refine ⟨fun i hi => ?_, ?_, fun i hi => ?_⟩
  · rw [cp_lt (by omega)]; exact h.1 i hi
  · rw [cp_lt (by omega)]; exact h.2.1
  · rw [cp_lt (by omega)]; exact h.2.2 i hi
theorem wtF_cong {P P' : Nat → Nat} {nC : Nat} (h : PEq nC P P') {c : Nat} (hc : c < 5) : ∀ n, n ≤ 5 → wtF P c n = wtF P' c n
  | 0, _ => rfl
  | n + 1, hn => by
    unfold wtF
    rw [wtF_cong h hc n (by omega), h.2 _ (by omega) (by omega)]
theorem wtS_cong {P P' : Nat → Nat} {nC : Nat} (h : PEq nC P P') : ∀ n, n ≤ 5 → wtS P n = wtS P' n
  | 0, _ => rfl
  | n + 1, hn => by
    unfold wtS
    rw [wtS_cong h n (by omega), wtF_cong h (by omega) 5 (by omega)]
theorem wtF_le {P : Nat → Nat} (h : OKP P) {c : Nat} (hc : c < 5) : ∀ n, n ≤ 5 → wtF P c n ≤ 9 * n
  | 0, _ => Nat.le_refl _
  | n + 1, hn => by
    have h1 := wtF_le h hc n (by omega)
    have h2 := h.2.2 (5 * c + n) (by omega)
    rw [show 6 + (5 * c + n) = 6 + 5 * c + n by omega] at h2
    unfold wtF
    omega
theorem wtS_le {P : Nat → Nat} (h : OKP P) : ∀ n, n ≤ 5 → wtS P n ≤ 45 * n
  | 0, _ => Nat.le_refl _
  | n + 1, hn => by
    have h1 := wtS_le h n (by omega)
    have h2 := wtF_le h (c := n) (by omega) 5 (by omega)
    unfold wtS
    omega
def unl (P : Nat → Nat) (c : Nat) : Nat → Nat → Nat
  | 0 => P
  | n + 1 => fup (unl P c n) (6 + 5 * c + n) 0
/-- the trial alone is changed -/
def TR (σ : St) (u : St) : Prop := ∃ T, u = stM σ 1 T
theorem TR.rf (σ : St) : TR σ σ := ⟨pM σ 1, (stM_self σ 1).symm⟩
set_option maxHeartbeats 4000000 in
set_option maxRecDepth 100000 in
theorem c_X5_putOn {B : Bk} {σ : St} {L c : Nat} (hL : L < 2) (hc : c < 5) : MC yX5_putOn cX5_putOn 4 none 0 B [.ref (B.1 0), .int (nI L), .int (nI c)] σ (dV (stM σ L (unl (pM σ L) c 5))) := by
  refine MC_void RX5 [some (.ref (B.1 0)), some (.int (nI L)), some (.int (nI c)), none] 1 (by decide +kernel) rfl rfl (Nat.le_of_ble_eq_true rfl) (fun E Q hret => ?_)
  refine V_iconst (pc := 0) 0 dX5_putOn_0 (by decide) ?_
  refine V_istore_n (pc := 1) dX5_putOn_1 (by decide) rfl ?_
  have L_2 : ∀ (m : Nat) (i : Nat), 5 - i = m → i ≤ 5 → V E B RX5 cX5_putOn 4 0 Q 2 [some (.ref (B.1 0)), some (.int (nI L)), some (.int (nI c)), some (.int (nI i))] [] (stM σ L (unl (pM σ L) c i)) := by
    intro m
    induction m using Nat.strongRecOn with
    | _ m ih =>
      intro i hm hi
      refine V_iload_n (pc := 2) dX5_putOn_2 rfl ?_
      refine V_iconst (pc := 3) 5 dX5_putOn_3 (by decide) ?_
      refine V_icmp_ge (pc := 4) 32 dX5_putOn_4 (by decide) (by first | omega | assumption | exact and1_lt _ | exact nb_p) (by first | omega | assumption | exact and1_lt _ | exact nb_p) (fun h_4 => ?_) (fun h_4 => ?_)
      · skip
        exact hret _ _ _ dX5_putOn_32 (dV_mk (by rw [show i = 5 by omega]))
      · skip
        refine V_aload_n (pc := 7) dX5_putOn_7 rfl ?_
        refine G_X5_now (pc := 8) (by first | rfl | assumption) fl_X5_25 dX5_putOn_8 ?_
        refine V_bipush (pc := 11) 32 dX5_putOn_11 (by decide) ?_
        refine V_iload_n (pc := 13) dX5_putOn_13 rfl ?_
        refine V_imul (pc := 14) dX5_putOn_14 ?_
        refine V_bipush (pc := 15) 6 dX5_putOn_15 (by decide) ?_
        refine V_iadd (pc := 17) dX5_putOn_17 ?_
        refine V_iconst (pc := 18) 5 dX5_putOn_18 (by decide) ?_
        refine V_iload_n (pc := 19) dX5_putOn_19 rfl ?_
        refine V_imul (pc := 20) dX5_putOn_20 ?_
        refine V_iadd (pc := 21) dX5_putOn_21 ?_
        refine V_iload_n (pc := 22) dX5_putOn_22 rfl ?_
        refine V_iadd (pc := 23) dX5_putOn_23 ?_
        refine V_iconst (pc := 24) 0 dX5_putOn_24 (by decide) ?_
        refine V_iast (pc := 25) (by first | rfl | assumption) (by first | omega | assumption | exact and1_lt _ | exact nb_p) dX5_putOn_25 ?_
        refine V_iinc (pc := 26) 1 dX5_putOn_26 (by decide) rfl (by decide) rfl ?_
        refine V_goto (pc := 29) 2 dX5_putOn_29 (by decide) ?_
        rw [show 32 * L + 6 + 5 * c + i = 32 * L + (6 + 5 * c + i) by omega, stM_put]
        exact ih _ (by omega) (i + 1) rfl (by omega)
  have e := L_2 _ 0 rfl (by omega)
  rw [show unl (pM σ L) c 0 = pM σ L from rfl, stM_self] at e
  exact e
theorem c_X5_putOn2 {B : Bk} {σ : St} {L c : Nat} {P : Nat → Nat} (hL : L < 2) (hc : c < 5) : MC yX5_putOn cX5_putOn 4 none 0 B [.ref (B.1 0), .int (nI L), .int (nI c)] (stM σ L P) (dV (stM σ L (unl P c 5))) := by
  have h := c_X5_putOn (B := B) (σ := stM σ L P) (L := L) (c := c) hL hc
  rw [pM_stM, stM_stM] at h
  exact h
set_option maxHeartbeats 4000000 in
set_option maxRecDepth 100000 in
theorem c_X5_layTrial {B : Bk} {σ : St} : MC yX5_layTrial cX5_layTrial 2 none 0 B [.ref (B.1 0)] σ (dV (stM σ 1 (cp32 (pM σ 0) (pM σ 1)))) := by
  refine MC_void RX5 [some (.ref (B.1 0)), none] 1 (by decide +kernel) rfl rfl (Nat.le_of_ble_eq_true rfl) (fun E Q hret => ?_)
  refine V_iconst (pc := 0) 0 dX5_layTrial_0 (by decide) ?_
  refine V_istore_n (pc := 1) dX5_layTrial_1 (by decide) rfl ?_
  have L_2 : ∀ (m : Nat) (i : Nat), 32 - i = m → i ≤ 32 → V E B RX5 cX5_layTrial 2 0 Q 2 [some (.ref (B.1 0)), some (.int (nI i))] [] (cpy σ 6 32 6 0 i) := by
    intro m
    induction m using Nat.strongRecOn with
    | _ m ih =>
      intro i hm hi
      refine V_iload_n (pc := 2) dX5_layTrial_2 rfl ?_
      refine V_bipush (pc := 3) 32 dX5_layTrial_3 (by decide) ?_
      refine V_icmp_ge (pc := 5) 29 dX5_layTrial_5 (by decide) (by first | omega | assumption | exact and1_lt _ | exact nb_p) (by first | omega | assumption | exact and1_lt _ | exact nb_p) (fun h_5 => ?_) (fun h_5 => ?_)
      · skip
        exact hret _ _ _ dX5_layTrial_29 (dV_mk (by rw [show i = 32 by omega, lay_stM]))
      · skip
        refine V_aload_n (pc := 8) dX5_layTrial_8 rfl ?_
        refine G_X5_now (pc := 9) (by first | rfl | assumption) fl_X5_25 dX5_layTrial_9 ?_
        refine V_bipush (pc := 12) 32 dX5_layTrial_12 (by decide) ?_
        refine V_iload_n (pc := 14) dX5_layTrial_14 rfl ?_
        refine V_iadd (pc := 15) dX5_layTrial_15 ?_
        refine V_aload_n (pc := 16) dX5_layTrial_16 rfl ?_
        refine G_X5_now (pc := 17) (by first | rfl | assumption) fl_X5_25 dX5_layTrial_17 ?_
        refine V_iload_n (pc := 20) dX5_layTrial_20 rfl ?_
        refine V_iald (pc := 21) (by first | rfl | assumption) (by first | omega | assumption | exact and1_lt _ | exact nb_p) dX5_layTrial_21 ?_
        refine V_iast (pc := 22) (by first | rfl | assumption) (by first | omega | assumption | exact and1_lt _ | exact nb_p) dX5_layTrial_22 ?_
        refine V_iinc (pc := 23) 1 dX5_layTrial_23 (by decide) rfl (by decide) rfl ?_
        refine V_goto (pc := 26) 2 dX5_layTrial_26 (by decide) ?_
        rw [cpy_s (by omega) (by omega) (by omega)]
        exact ih _ (by omega) (i + 1) rfl (by omega)
  have e := L_2 _ 0 rfl (by omega)
  rw [cpy_0] at e
  exact e
set_option maxHeartbeats 4000000 in
set_option maxRecDepth 100000 in
theorem c_X5_goOn2 {B : Bk} {σ : St} {n : Nat} {P : Nat → Nat} (o : OKK σ) (ht : σ 0 20 < 64) (hp : OKP P) (hd : P 31 + n < 2 ^ 31) : MC yX5_goOn cX5_goOn 3 none 4 B [.ref (B.1 0), .int (nI n)] (stM σ 1 P) (dV (stM σ 1 (itr σ (σ 0 20) P n))) := by
  refine MC_void RX5 [some (.ref (B.1 0)), some (.int (nI n)), none] 1 (by decide +kernel) rfl rfl (Nat.le_of_ble_eq_true rfl) (fun E Q hret => ?_)
  refine V_iconst (pc := 0) 0 dX5_goOn_0 (by decide) ?_
  refine V_istore_n (pc := 1) dX5_goOn_1 (by decide) rfl ?_
  have L_2 : ∀ (m : Nat) (i : Nat), n - i = m → i ≤ n → V E B RX5 cX5_goOn 3 4 Q 2 [some (.ref (B.1 0)), some (.int (nI n)), some (.int (nI i))] [] (stM σ 1 (itr σ (σ 0 20) P i)) := by
    intro m
    induction m using Nat.strongRecOn with
    | _ m ih =>
      intro i hm hi
      refine V_iload_n (pc := 2) dX5_goOn_2 rfl ?_
      refine V_iload_n (pc := 3) dX5_goOn_3 rfl ?_
      refine V_icmp_ge (pc := 4) 19 dX5_goOn_4 (by decide) (by first | omega | assumption | exact and1_lt _ | exact nb_p) (by first | omega | assumption | exact and1_lt _ | exact nb_p) (fun h_4 => ?_) (fun h_4 => ?_)
      · skip
        exact hret _ _ _ dX5_goOn_19 (dV_mk (by rw [show i = n by omega]))
      · skip
        refine V_aload_n (pc := 7) dX5_goOn_7 rfl ?_
        refine V_iconst (pc := 8) 1 dX5_goOn_8 (by decide) ?_
        refine V_iconst (pc := 9) 1 dX5_goOn_9 (by decide) ?_
        refine V_callV_V (pc := 10) ff_X5_passOn ml_X5_165 (by first | rfl | assumption) rfl rfl (c_X5_passOn2 (z := 1) o ht (by decide) (by decide) (OKP_itr o hp _ _) (by rw [itr_31 o]; omega)) dX5_goOn_10 rfl rfl (by decide) (by decide) (Nat.le_of_ble_eq_true rfl) ?_
        refine V_iinc (pc := 13) 1 dX5_goOn_13 (by decide) rfl (by decide) rfl ?_
        refine V_goto (pc := 16) 2 dX5_goOn_16 (by decide) ?_
        exact ih _ (by omega) (i + 1) rfl (by omega)
  exact L_2 _ 0 rfl (by omega)
def kpA (σ : St) : St := pt (pt (cpy σ 11 (32 * σ 0 22) 6 0 32) 0 22 ((σ 0 22 + 1) % 14)) 0 21 (if σ 0 21 < 14 then σ 0 21 + 1 else 14)
set_option maxHeartbeats 4000000 in
set_option maxRecDepth 100000 in
theorem c_X5_keepAct {B : Bk} {σ : St} (hn : σ 0 22 < 14) (ha : σ 0 21 ≤ 14) : MC yX5_keepAct cX5_keepAct 2 none 0 B [.ref (B.1 0)] σ (dV (kpA σ)) := by
  refine MC_void RX5 [some (.ref (B.1 0)), none] 1 (by decide +kernel) rfl rfl (Nat.le_of_ble_eq_true rfl) (fun E Q hret => ?_)
  refine V_iconst (pc := 0) 0 dX5_keepAct_0 (by decide) ?_
  refine V_istore_n (pc := 1) dX5_keepAct_1 (by decide) rfl ?_
  have L_2 : ∀ (m : Nat) (i : Nat), 32 - i = m → i ≤ 32 → V E B RX5 cX5_keepAct 2 0 Q 2 [some (.ref (B.1 0)), some (.int (nI i))] [] (cpy σ 11 (32 * σ 0 22) 6 0 i) := by
    intro m
    induction m using Nat.strongRecOn with
    | _ m ih =>
      intro i hm hi
      refine V_iload_n (pc := 2) dX5_keepAct_2 rfl ?_
      refine V_bipush (pc := 3) 32 dX5_keepAct_3 (by decide) ?_
      refine V_icmp_ge (pc := 5) 34 dX5_keepAct_5 (by decide) (by first | omega | assumption | exact and1_lt _ | exact nb_p) (by first | omega | assumption | exact and1_lt _ | exact nb_p) (fun h_5 => ?_) (fun h_5 => ?_)
      · skip
        refine V_aload_n (pc := 34) dX5_keepAct_34 rfl ?_
        refine V_aload_n (pc := 35) dX5_keepAct_35 rfl ?_
        refine G_X5_next (pc := 36) (by first | rfl | assumption) fl_X5_159 dX5_keepAct_36 ?_
        rw [cpy_o (by decide), show i = 32 by omega]
        refine V_iconst (pc := 39) 1 dX5_keepAct_39 (by decide) ?_
        refine V_iadd (pc := 40) dX5_keepAct_40 ?_
        refine V_bipush (pc := 41) 14 dX5_keepAct_41 (by decide) ?_
        refine V_irem (pc := 43) dX5_keepAct_43 (by first | omega | assumption | exact and1_lt _ | exact nb_p) (by first | omega | assumption | exact and1_lt _ | exact nb_p) (by first | omega | assumption | exact and1_lt _ | exact nb_p) ?_
        refine P_X5_next (pc := 44) (by first | rfl | assumption) fl_X5_159 dX5_keepAct_44 ?_
        refine V_aload_n (pc := 47) dX5_keepAct_47 rfl ?_
        refine V_aload_n (pc := 48) dX5_keepAct_48 rfl ?_
        refine G_X5_acts (pc := 49) (by first | rfl | assumption) fl_X5_117 dX5_keepAct_49 ?_
        rw [pt_ne (by decide), cpy_o (by decide)]
        refine V_bipush (pc := 52) 14 dX5_keepAct_52 (by decide) ?_
        refine V_icmp_ge (pc := 54) 66 dX5_keepAct_54 (by decide) (by first | omega | assumption | exact and1_lt _ | exact nb_p) (by first | omega | assumption | exact and1_lt _ | exact nb_p) (fun h_54 => ?_) (fun h_54 => ?_)
        · skip
          refine V_bipush (pc := 66) 14 dX5_keepAct_66 (by decide) ?_
          refine P_X5_acts (pc := 68) (by first | rfl | assumption) fl_X5_117 dX5_keepAct_68 ?_
          exact hret _ _ _ dX5_keepAct_71 (dV_mk (by unfold kpA; first | rw [if_pos (by omega)] | rw [if_neg (by omega)]))
        · skip
          refine V_aload_n (pc := 57) dX5_keepAct_57 rfl ?_
          refine G_X5_acts (pc := 58) (by first | rfl | assumption) fl_X5_117 dX5_keepAct_58 ?_
          rw [pt_ne (by decide), cpy_o (by decide)]
          refine V_iconst (pc := 61) 1 dX5_keepAct_61 (by decide) ?_
          refine V_iadd (pc := 62) dX5_keepAct_62 ?_
          refine V_goto (pc := 63) 68 dX5_keepAct_63 (by decide) ?_
          refine P_X5_acts (pc := 68) (by first | rfl | assumption) fl_X5_117 dX5_keepAct_68 ?_
          exact hret _ _ _ dX5_keepAct_71 (dV_mk (by unfold kpA; first | rw [if_pos (by omega)] | rw [if_neg (by omega)]))
      · skip
        refine V_aload_n (pc := 8) dX5_keepAct_8 rfl ?_
        refine G_X5_row (pc := 9) (by first | rfl | assumption) fl_X5_44 dX5_keepAct_9 ?_
        refine V_bipush (pc := 12) 32 dX5_keepAct_12 (by decide) ?_
        refine V_aload_n (pc := 14) dX5_keepAct_14 rfl ?_
        refine G_X5_next (pc := 15) (by first | rfl | assumption) fl_X5_159 dX5_keepAct_15 ?_
        rw [cpy_o (by decide)]
        refine V_imul (pc := 18) dX5_keepAct_18 ?_
        refine V_iload_n (pc := 19) dX5_keepAct_19 rfl ?_
        refine V_iadd (pc := 20) dX5_keepAct_20 ?_
        refine V_aload_n (pc := 21) dX5_keepAct_21 rfl ?_
        refine G_X5_now (pc := 22) (by first | rfl | assumption) fl_X5_25 dX5_keepAct_22 ?_
        refine V_iload_n (pc := 25) dX5_keepAct_25 rfl ?_
        refine V_iald (pc := 26) (by first | rfl | assumption) (by first | omega | assumption | exact and1_lt _ | exact nb_p) dX5_keepAct_26 ?_
        refine V_iast (pc := 27) (by first | rfl | assumption) (by first | omega | assumption | exact and1_lt _ | exact nb_p) dX5_keepAct_27 ?_
        refine V_iinc (pc := 28) 1 dX5_keepAct_28 (by decide) rfl (by decide) rfl ?_
        refine V_goto (pc := 31) 2 dX5_keepAct_31 (by decide) ?_
        rw [cpy_s (by omega) (by omega) (by omega)]
        exact ih _ (by omega) (i + 1) rfl (by omega)
  have e := L_2 _ 0 rfl (by omega)
  rw [cpy_0] at e
  exact e
