/-! CLASS AND MODEL SIDE BY SIDE: what holds between two calls -/
def PR (n k : Nat) (P P' : Nat → Nat) : Prop := PEq n P P' ∧ OKP P ∧ OKP P' ∧ ZC n P ∧ P 31 ≤ k
theorem PR.mono {n k k' : Nat} {P P' : Nat → Nat} (h : PR n k P P') (hk : k ≤ k') : PR n k' P P' := ⟨h.1, h.2.1, h.2.2.1, h.2.2.2.1, Nat.le_trans h.2.2.2.2 hk⟩
theorem PR.r {n k : Nat} {P P' Q : Nat → Nat} (h : PR n k P P') (hn : n ≤ 5) (e : ∀ i, i < 32 → Q i = P' i) : PR n k P Q := by
  obtain ⟨h1, h2, h3, h4, h5⟩ := h
  refine ⟨⟨fun c hc => by rw [e c (by omega)]; exact h1.1 c hc, fun i a b => by rw [e i b]; exact h1.2 i a b⟩, h2, ⟨fun i hi => by rw [e i (by omega)]; exact h3.1 i hi, by rw [e 5 (by omega)]; exact h3.2.1, fun i hi => by rw [e _ (by omega)]; exact h3.2.2 i hi⟩, h4, h5⟩
def sT (σ : St) : Prop := σ 0 17 = σ 17 1 ∧ σ 0 17 ≤ 48 ∧ (∀ i, i < 48 → σ 10 i < 256) ∧ (∀ i, i < 48 → σ 18 i < 256) ∧ (∀ i, i < σ 0 17 → σ 18 i = σ 10 i)
def sC (σ : St) : Prop := OKX σ (σ 17 2) ∧ kd (σ 17 3) = (3, 0) ∧ σ 17 2 ≠ σ 17 3 ∧ KC (KX σ (σ 17 2)) σ ∧ σ 0 20 = 63
def sN (k : Nat) (σ : St) : Prop := PR (σ 0 2) k (pX σ 45) (pM σ 0) ∧ OKP (pX σ 48)
def rwi (σ : St) (i : Nat) : Nat := (σ 0 22 + 13 - i) % 14
def sA (k : Nat) (σ : St) : Prop := σ 23 1 = σ 0 22 ∧ σ 0 22 < 14 ∧ σ 23 2 = σ 0 21 ∧ σ 0 21 ≤ 14 ∧ ∀ i, i < σ 0 21 → PR (σ 0 2) k (pX σ (60 + 3 * rwi σ i)) (fun j => σ 11 (32 * rwi σ i + j))
def sQ (k : Nat) (σ : St) : Prop := σ 17 9 < 4 ∧ (∀ i, σ 15 i < 2) ∧ (∀ s, s < 2 → ((σ 17 9).testBit s = true ↔ σ 15 s = 1)) ∧ ∀ s, s < 2 → σ 15 s = 1 → PR (σ 0 2) k (pX σ (54 + 3 * s)) (fun j => σ 16 (32 * s + j))
def sM (σ : St) : Prop := σ 25 3 = σ 0 24 ∧ OKW σ ∧ ∀ i, i < σ 0 24 → σ 26 i = σ 12 i ∧ σ 27 i = σ 13 i ∧ σ 28 i = σ 14 i
def sS (σ : St) : Prop := σ 17 11 = σ 0 28 ∧ σ 0 28 < 2 ^ 64
def SIM (k : Nat) (σ : St) : Prop := sT σ ∧ sC σ ∧ sN k σ ∧ sA k σ ∧ sQ k σ ∧ sM σ ∧ sS σ
section SAME
variable {k : Nat} {σ u : St}
theorem sT_same (h : sT σ) (h0 : u 0 17 = σ 0 17) (h10 : u 10 = σ 10) (h17 : u 17 1 = σ 17 1) (h18 : u 18 = σ 18) : sT u := by
  unfold sT
  rw [h0, h10, h17, h18]
  exact h
theorem sC_same (h : sC σ) (h2 : u 17 2 = σ 17 2) (h3 : u 17 3 = σ 17 3) (hb : ∀ k, σ 17 2 ≤ k → k < σ 17 2 + 8 → u k = σ k) (e0 : u 0 0 = σ 0 0) (e1 : u 0 1 = σ 0 1) (e2 : u 0 2 = σ 0 2) (e20 : u 0 20 = σ 0 20) (e5 : ∀ k, 1 ≤ k → k ≤ 5 → u k = σ k) : sC u := by
  obtain ⟨c1, c2, c3, c4, c5⟩ := h
  refine ⟨by rw [h2]; exact OKX_same c1 hb, by rw [h3]; exact c2, by rw [h2, h3]; exact c3, ?_, by rw [e20]; exact c5⟩
  rw [h2, KX_same hb]
  unfold KC
  rw [e0, e1, e2, e5 1 (by decide) (by decide), e5 2 (by decide) (by decide), e5 3 (by decide) (by decide), e5 4 (by decide) (by decide), e5 5 (by decide) (by decide)]
  exact c4
theorem sC_n (h : sC σ) : σ 0 2 ≤ 5 ∧ σ 0 1 ≤ 6 ∧ KX σ (σ 17 2) 0 2 = σ 0 2 ∧ KX σ (σ 17 2) 0 1 = σ 0 1 := by
  have h1 := h.1.2.1.1
  have h2 := h.2.2.2.1
  exact ⟨by rw [← h2.2.2.1]; exact h1.2.2.1, by rw [← h2.2.1]; exact h1.2.1, h2.2.2.1, h2.2.1⟩
theorem sN_same (h : sN k σ) (hn : σ 0 2 ≤ 5) (e2 : u 0 2 = σ 0 2) (ep : pX u 45 = pX σ 45) (e6 : ∀ i, i < 32 → u 6 i = σ 6 i) (h48 : OKP (pX u 48)) : sN k u := by
  refine ⟨?_, h48⟩
  rw [e2, ep]
  exact h.1.r hn (fun i hi => by rw [pM0, pM0]; exact e6 i hi)
theorem sA_same (h : sA k σ) (e2 : u 0 2 = σ 0 2) (e21 : u 0 21 = σ 0 21) (e22 : u 0 22 = σ 0 22) (e23 : u 23 = σ 23) (e11 : u 11 = σ 11) (e60 : ∀ k, 60 ≤ k → u k = σ k) : sA k u := by
  obtain ⟨a1, a2, a3, a4, a5⟩ := h
  refine ⟨by rw [e23, e22]; exact a1, by rw [e22]; exact a2, by rw [e23, e21]; exact a3, by rw [e21]; exact a4, fun i hi => ?_⟩
  have er : rwi u i = rwi σ i := by unfold rwi; rw [e22]
  rw [e21] at hi
  rw [er, e11, e2, pX_same (e60 _ (by omega)) (e60 _ (by omega)) (e60 _ (by omega))]
  exact a5 i hi
theorem sQ_same (h : sQ k σ) (e2 : u 0 2 = σ 0 2) (e9 : u 17 9 = σ 17 9) (e15 : u 15 = σ 15) (e16 : u 16 = σ 16) (e54 : ∀ k, 54 ≤ k → k < 60 → u k = σ k) : sQ k u := by
  obtain ⟨a1, a2, a3, a4⟩ := h
  refine ⟨by rw [e9]; exact a1, by rw [e15]; exact a2, by rw [e9, e15]; exact a3, fun s hs hz => ?_⟩
  rw [e15] at hz
  rw [e16, e2, pX_same (e54 _ (by omega) (by omega)) (e54 _ (by omega) (by omega)) (e54 _ (by omega) (by omega))]
  exact a4 s hs hz
theorem sM_same (h : sM σ) (e24 : u 0 24 = σ 0 24) (e25 : u 25 3 = σ 25 3) (e12 : u 12 = σ 12) (e13 : u 13 = σ 13) (e14 : u 14 = σ 14) (e26 : u 26 = σ 26) (e27 : u 27 = σ 27) (e28 : u 28 = σ 28) : sM u := by
  unfold sM OKW
  rw [e24, e25, e12, e13, e14, e26, e27, e28]
  exact h
theorem sS_same (h : sS σ) (e11 : u 17 11 = σ 17 11) (e28 : u 0 28 = σ 0 28) : sS u := by
  unfold sS
  rw [e11, e28]
  exact h
theorem sN_mono (h : sN k σ) {k' : Nat} (hk : k ≤ k') : sN k' σ := ⟨h.1.mono hk, h.2⟩
theorem sA_mono (h : sA k σ) {k' : Nat} (hk : k ≤ k') : sA k' σ := ⟨h.1, h.2.1, h.2.2.1, h.2.2.2.1, fun i hi => (h.2.2.2.2 i hi).mono hk⟩
theorem sQ_mono (h : sQ k σ) {k' : Nat} (hk : k ≤ k') : sQ k' σ := ⟨h.1, h.2.1, h.2.2.1, fun s a b => (h.2.2.2 s a b).mono hk⟩
theorem SIM.mono (h : SIM k σ) {k' : Nat} (hk : k ≤ k') : SIM k' σ := ⟨h.1, h.2.1, sN_mono h.2.2.1 hk, sA_mono h.2.2.2.1 hk, sQ_mono h.2.2.2.2.1 hk, h.2.2.2.2.2.1, h.2.2.2.2.2.2⟩
/-- what the class's calls need -/
theorem SIM.cls (h : SIM k σ) (hk : k ≤ 2 ^ 20) : GX σ ∧ TY σ ∧ OKM σ ∧ OKP (pX σ 48) ∧ σ 23 1 < 14 ∧ σ 23 2 ≤ 14 ∧ σ 17 9 < 4 ∧ σ 17 11 < 2 ^ 64 ∧ σ 17 1 ≤ 48 ∧ σ 25 3 ≤ 6 := by
  obtain ⟨⟨t1, t2, t3, t4, t5⟩, ⟨c1, c2, c3, c4, c5⟩, ⟨n1, n2⟩, ⟨a1, a2, a3, a4, a5⟩, ⟨q1, q2, q3, q4⟩, ⟨m1, m2, m3⟩, ⟨s1, s2⟩⟩ := h
  refine ⟨⟨c1, n1.2.1, Nat.le_trans n1.2.2.2.2 hk⟩, ⟨by omega, t4, c1.1, c2, c3⟩, ⟨by rw [m1]; exact m2.1, fun i hi => ?_⟩, n2, by omega, by omega, q1, by rw [s1]; exact s2, by omega, by rw [m1]; exact m2.1⟩
  rw [m1] at hi
  have h3 := m3 i hi
  rw [h3.1, h3.2.1, h3.2.2]
  exact m2.2 i hi
/-- what the model's calls need, where the class has gone on alone -/
theorem SIM.mdl (h : SIM k σ) (hk : k ≤ 2 ^ 20) (hu : ∀ j, j < 17 → u j = σ j) : KC (KX σ (σ 17 2)) u ∧ PEq (KX σ (σ 17 2) 0 2) (pX σ 45) (pM u 0) ∧ GM u ∧ OKW u ∧ TXz u ∧ u 0 22 < 14 ∧ u 0 21 ≤ 14 ∧ (∀ i, u 15 i < 2) ∧ u 0 28 < 2 ^ 64 := by
  obtain ⟨⟨t1, t2, t3, t4, t5⟩, ⟨c1, c2, c3, c4, c5⟩, ⟨n1, n2⟩, ⟨a1, a2, a3, a4, a5⟩, ⟨q1, q2, q3, q4⟩, ⟨m1, m2, m3⟩, ⟨s1, s2⟩⟩ := h
  have hK : KC (KX σ (σ 17 2)) u := by
    unfold KC
    rw [hu 0 (by decide), hu 1 (by decide), hu 2 (by decide), hu 3 (by decide), hu 4 (by decide), hu 5 (by decide)]
    exact c4
  have hM : pM u 0 = pM σ 0 := by
    funext i
    rw [pM0, pM0, hu 6 (by decide)]
  refine ⟨hK, by rw [hM, c4.2.2.1]; exact n1.1, ⟨OKK_C hK c1.2.1.1, by rw [hu 0 (by decide)]; exact c5, by rw [hM]; exact n1.2.2.1, ?_⟩, ?_, ⟨by rw [hu 0 (by decide)]; exact t2, by rw [hu 10 (by decide)]; exact t3⟩, by rw [hu 0 (by decide)]; exact a2, by rw [hu 0 (by decide)]; exact a4, by rw [hu 15 (by decide)]; exact q2, by rw [hu 0 (by decide)]; exact s2⟩
  · rw [hM, ← n1.1.2 31 (by decide) (by decide)]
    exact Nat.le_trans n1.2.2.2.2 hk
  · unfold OKW
    rw [hu 0 (by decide), hu 12 (by decide), hu 13 (by decide), hu 14 (by decide)]
    exact m2
end SAME
/-- the class has used its trial and its rows of weights alone -/
def FC (σ u : St) : Prop := (∀ j, (j < 19 ∨ 21 < j) → (j < 48 ∨ 53 < j) → u j = σ j) ∧ OKP (pX u 48)
theorem FC_TQ {σ u : St} (h : TQ σ u) : FC σ u := by
  obtain ⟨T, h1, h2, rfl⟩ := h
  exact ⟨fun j _ h4 => stX_o (by omega) (by omega) (by omega), by rw [pX_stX _ _ h2]; exact h1⟩
theorem FC_TW {σ u : St} (h : TW σ u) : FC σ u := by
  obtain ⟨w, T, h0, h1, h2, rfl⟩ := h
  exact ⟨fun j h3 h4 => by rw [stX_o (by omega) (by omega) (by omega)]; exact h0 j (by omega) (by omega) (by omega), by rw [pX_stX _ _ h2]; exact h1⟩
theorem FC_TS {σ u : St} (h : TS σ u) : FC σ u := by
  obtain ⟨T, S, h1, h2, rfl⟩ := h
  exact ⟨fun j _ h4 => by rw [stX_o (by omega) (by omega) (by omega), stX_o (by omega) (by omega) (by omega)], by rw [ts_p h2]; exact h1⟩
theorem SIM_q {k : Nat} {σ u w : St} (g : SIM k σ) (hF : FC σ u) (hR : TR u w) : SIM (k + 1) w := by
  obtain ⟨T, rfl⟩ := hR
  obtain ⟨gt, gc, gn, ga, gq, gm, gs⟩ := g.mono (Nat.le_succ k)
  have b8 := (kd3' gc.1.1).2.2.2.2.2.2.2
  have hn := (sC_n gc).1
  have e : ∀ j, j ≠ 6 → (j < 19 ∨ 21 < j) → (j < 48 ∨ 53 < j) → stM u 1 T j = σ j := fun j h1 h2 h3 => by rw [stM_o h1]; exact hF.1 j h2 h3
  have e0 : stM u 1 T 0 = σ 0 := e 0 (by decide) (by decide) (by decide)
  have e17 : stM u 1 T 17 = σ 17 := e 17 (by decide) (by decide) (by decide)
  refine ⟨sT_same gt (by rw [e0]) (e 10 (by decide) (by decide) (by decide)) (by rw [e17]) (e 18 (by decide) (by decide) (by decide)), sC_same gc (by rw [e17]) (by rw [e17]) (fun j h1 h2 => e j (by omega) (by omega) (by omega)) (by rw [e0]) (by rw [e0]) (by rw [e0]) (by rw [e0]) (fun j h1 h2 => e j (by omega) (by omega) (by omega)), sN_same gn hn (by rw [e0]) (pX_same (e _ (by decide) (by decide) (by decide)) (e _ (by decide) (by decide) (by decide)) (e _ (by decide) (by decide) (by decide))) (fun i hi => ?_) ?_, sA_same ga (by rw [e0]) (by rw [e0]) (by rw [e0]) (e 23 (by decide) (by decide) (by decide)) (e 11 (by decide) (by decide) (by decide)) (fun j h => e j (by omega) (by omega) (by omega)), sQ_same gq (by rw [e0]) (by rw [e17]) (e 15 (by decide) (by decide) (by decide)) (e 16 (by decide) (by decide) (by decide)) (fun j h1 h2 => e j (by omega) (by omega) (by omega)), sM_same gm (by rw [e0]) (by rw [e 25 (by decide) (by decide) (by decide)]) (e 12 (by decide) (by decide) (by decide)) (e 13 (by decide) (by decide) (by decide)) (e 14 (by decide) (by decide) (by decide)) (e 26 (by decide) (by decide) (by decide)) (e 27 (by decide) (by decide) (by decide)) (e 28 (by decide) (by decide) (by decide)), sS_same gs (by rw [e17]) (by rw [e0])⟩
  · unfold stM
    rw [if_neg (by omega), hF.1 6 (by decide) (by decide)]
  · rw [pX_same (u := stM u 1 T) (σ := u) (k := 48) (stM_o (by decide)) (stM_o (by decide)) (stM_o (by decide))]
    exact hF.2
/-! the questions -/
section QS
variable {k : Nat} {σ u w : St}
theorem st_ahead (g : SIM k σ) (hk : k ≤ 2 ^ 20) (hu : ∀ j, j < 17 → u j = σ j) (c s n : Nat) : ahG (KX σ (σ 17 2)) (pX σ 45) c s n = ahM u c s n := by
  obtain ⟨h1, h2, -⟩ := g.mdl hk hu
  exact ah_eq g.2.1.1.2.1.1 h1 h2 c s n
theorem st_later (g : SIM k σ) (hk : k ≤ 2 ^ 20) (hu : ∀ j, j < 17 → u j = σ j) (c n x : Nat) : laG (KX σ (σ 17 2)) (pX σ 45) c n x = laM u c n x := by
  obtain ⟨h1, h2, -⟩ := g.mdl hk hu
  exact la_eq g.2.1.1.2.1.1 h1 h2 c n x
theorem st_enough (g : SIM k σ) (hk : k ≤ 2 ^ 20) (hu : ∀ j, j < 17 → u j = σ j) (c s v : Nat) : enG (KX σ (σ 17 2)) (pX σ 45) c s v = enM u c s v := by
  obtain ⟨h1, h2, -⟩ := g.mdl hk hu
  exact en_eq g.2.1.1.2.1.1 h1 h2 c s v
theorem st_best (g : SIM k σ) (hk : k ≤ 2 ^ 20) (hu : ∀ j, j < 17 → u j = σ j) (c n x : Nat) : beG (KX σ (σ 17 2)) (pX σ 45) c n x = beM u c n x := by
  obtain ⟨h1, h2, -⟩ := g.mdl hk hu
  exact be_eq g.2.1.1.2.1.1 h1 h2 c n x
theorem st_judge (g : SIM k σ) (hk : k ≤ 2 ^ 20) (hu : ∀ j, j < 17 → u j = σ j) (n r : Nat) : juG (KX σ (σ 17 2)) (pX σ 45) n r = juM u n r := by
  obtain ⟨h1, h2, -⟩ := g.mdl hk hu
  exact ju_eq g.2.1.1.2.1.1 h1 h2 n r
theorem st_share (g : SIM k σ) (hk : k ≤ 2 ^ 20) (hu : ∀ j, j < 17 → u j = σ j) (q c up : Nat) : shG2 (KX σ (σ 17 2)) (pX σ 45) q c up = shM u q c up := by
  obtain ⟨h1, h2, -⟩ := g.mdl hk hu
  exact sh_eq g.2.1.1.2.1.1 h1 h2 q c up
theorem st_rests (g : SIM k σ) (hk : k ≤ 2 ^ 20) (hu : ∀ j, j < 17 → u j = σ j) (a b x : Nat) : reG (KX σ (σ 17 2)) (pX σ 45) a b x = reM u a b x := by
  obtain ⟨h1, h2, -⟩ := g.mdl hk hu
  exact re_eq g.2.1.1.2.1.1 h1 h2 a b x
theorem st_fails (g : SIM k σ) (hk : k ≤ 2 ^ 20) (hu : ∀ j, j < 17 → u j = σ j) (c s v n x up : Nat) : flG (KX σ (σ 17 2)) (pX σ 45) c s v n x up = flM u c s v n x up := by
  obtain ⟨h1, h2, -⟩ := g.mdl hk hu
  exact fl_eq g.2.1.1.2.1.1 h1 h2 c s v n x up
theorem st_fit (g : SIM k σ) (hk : k ≤ 2 ^ 20) (hu : ∀ j, j < 17 → u j = σ j) : fiG (KX σ (σ 17 2)) (pX σ 45) = fiM u := by
  obtain ⟨h1, h2, -⟩ := g.mdl hk hu
  exact fi_eq g.2.1.1.2.1.1 h1 h2 g.2.2.1.1.2.1 (by rw [(sC_n g.2.1).2.2.1]; exact g.2.2.1.1.2.2.2.1)
theorem st_began (g : SIM k σ) (hk : k ≤ 2 ^ 20) (hu : ∀ j, j < 17 → u j = σ j) : bgF (KX σ (σ 17 2)) (σ 26) (σ 27) (σ 28) (σ 25 3) 12 = bgF u (u 12) (u 13) (u 14) (u 0 24) 12 := by
  obtain ⟨h1, h2, -⟩ := g.mdl hk hu
  have m := g.2.2.2.2.2.1
  rw [hu 12 (by decide), hu 13 (by decide), hu 14 (by decide), hu 0 (by decide), m.1]
  exact bgF_C g.2.1.1.2.1.1 h1 m.2.2 12
theorem chA_cong {P P' : Nat → Nat} {v : Nat} : ∀ {n : Nat}, (∀ i, i < n → P i = P' i) → chA P v n = chA P' v n
  | 0, _ => rfl
  | n + 1, h => by
    unfold chA
    rw [chA_cong (fun i hi => h i (by omega)), h n (by omega)]
theorem st_ground (g : SIM k σ) (q x : Nat) : grX σ q x = grM σ q x := by
  obtain ⟨c1, c2, c3, c4, c5⟩ := g.2.1
  have n1 := g.2.2.1.1.1
  have e8 : σ (σ 17 2) 8 = σ 0 1 := c4.2.1
  have e9 : σ (σ 17 2) 9 = σ 0 2 := c4.2.2.1
  unfold grX grM
  rw [e8, e9]
  by_cases h : q < σ 0 1
  · rw [if_pos h, if_pos h]
    have h4 : σ (σ 17 2 + 2) q = σ 2 q ∧ σ (σ 17 2 + 3) q = σ 3 q ∧ σ (σ 17 2 + 4) q = σ 4 q := c4.2.2.2.2.1 q (show q < KX σ (σ 17 2) 0 1 by rw [c4.2.1]; exact h)
    rw [h4.1, h4.2.1, h4.2.2, chA_cong (P := pX σ 45) (P' := pM σ 0) (fun i hi => n1.1 i hi)]
  · rw [if_neg h, if_neg h]
theorem bit01 (a c : Nat) : a / 2 ^ c &&& 1 = if a.testBit c = true then 1 else 0 := by
  by_cases h : a.testBit c = true
  · rw [if_pos h, tb_and.mpr h]
  · rw [if_neg h]
    have h1 := and1_z (a / 2 ^ c)
    have h2 : ¬ a / 2 ^ c &&& 1 = 1 := fun q => h (tb_and.mp q)
    omega
theorem st_child (g : SIM k σ) (c x : Nat) : chX σ c x = chM σ c x := by
  obtain ⟨c1, c2, c3, c4, c5⟩ := g.2.1
  have n1 := g.2.2.1.1.1
  have hp := g.2.2.1.1.2.1
  have hn := (sC_n g.2.1).1
  have e9 : σ (σ 17 2) 9 = σ 0 2 := c4.2.2.1
  unfold chX chM
  rw [e9]
  by_cases h : c < σ 0 2
  · rw [if_pos h, if_pos h]
    have e1 : σ (45 + 1) c = σ 6 c := by
      have := n1.1 c h
      rw [pX_c (by omega), pM0] at this
      exact this
    have e2 : σ (σ 17 2 + 6) c = σ 5 c := c4.2.2.2.2.2 c (show c < KX σ (σ 17 2) 0 2 by rw [c4.2.2.1]; exact h)
    have e3 : σ 45 2 = σ 6 5 := by
      have := n1.2 5 (by decide) (by decide)
      rw [pX_5, pM0] at this
      exact this
    have h12 : σ 6 c < 12 := by
      have := hp.1 c (by omega)
      rw [pX_c (by omega), e1] at this
      exact this
    have e4 : gIn σ (σ 17 2) (σ 6 c) = grA σ (σ 0 20) (σ 6 c) := by
      rw [c5, ← grA_C c4]
      have h7 := gIn_ok c1 63 h12
      rw [h7]
      rcases gIn_lt c1 (σ 6 c) with z | z
      · rw [if_neg (by omega), z]
      · have h8 : σ (σ 17 2) 8 ≤ 6 := c1.2.1.1.2.1
        have hb : ∀ i, i < 6 → Nat.testBit 63 i = true := by decide +kernel
        rw [if_pos ⟨by omega, hb _ (by omega)⟩]
    rw [e1, e2, e3, e4, bit01, wtF_cong n1 (by omega) 5 (by omega)]
  · rw [if_neg h, if_neg h]
theorem st_knows (g : SIM k σ) (c s : Nat) : knX σ c s = knM σ c s := by
  have n1 := g.2.2.1.1.1
  have hn := (sC_n g.2.1).1
  have e9 : σ (σ 17 2) 9 = σ 0 2 := g.2.1.2.2.2.1.2.2.1
  unfold knX knM
  rw [e9]
  by_cases h : c < σ 0 2 ∧ s < 5
  · rw [if_pos h, if_pos h]
    have := n1.2 (6 + (c * 5 + s)) (by omega) (by omega)
    rw [pX_n (by omega), pM0, show 6 + (c * 5 + s) = 6 + 5 * c + s by omega] at this
    exact this
  · rw [if_neg h, if_neg h]
theorem st_count (g : SIM k σ) (x : Nat) : cnX σ x = cnM σ x := by
  obtain ⟨c1, c2, c3, c4, c5⟩ := g.2.1
  have n1 := g.2.2.1.1
  have hn := (sC_n g.2.1).1
  have e7 : σ (σ 17 2) 7 = σ 0 0 := c4.1
  have e8 : σ (σ 17 2) 8 = σ 0 1 := c4.2.1
  have e9 : σ (σ 17 2) 9 = σ 0 2 := c4.2.2.1
  have e31 : σ 45 3 = σ 6 31 := by
    have := n1.1.2 31 (by decide) (by decide)
    rw [pX_31, pM0] at this
    exact this
  have e5 : σ 45 2 = σ 6 5 := by
    have := n1.1.2 5 (by decide) (by decide)
    rw [pX_5, pM0] at this
    exact this
  unfold cnX cnM
  rw [e7, e8, e9, e31, e5, ← g.1.1, ← wyO_C c4, g.2.2.2.1.2.2.1, g.2.2.2.2.2.1.1, wtS_5 n1.2.2.2.1 hn, wtS_cong n1.1 _ hn, cbF_cong (f := σ (σ 17 2 + 2)) (g := σ 2) (fun i hi => (c4.2.2.2.2.1 i (show i < KX σ (σ 17 2) 0 1 by rw [c4.2.1]; exact hi)).1), cbF_cong (f := σ (45 + 1)) (g := pM σ 0) (fun i hi => by have := n1.1.1 i hi; rw [pX_c (by omega)] at this; exact this)]
end QS
