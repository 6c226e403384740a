/-! THE MATHEMATICS. K is a coast: K 0 0 tides, K 0 1 grounds, K 0 2 children; K 1 the ways, K 2, 3, 4 a ground's cell, subject, kind, K 5 a child's kind. P are pots: cells 0 to 4, 5 who is moored, 6 + 5 c + s what is known, 31 the day. -/
def onw (c w : Nat) : Nat := if w = 0 then (if c % 4 = 0 then c else c - 1) else if w = 1 then (if c % 4 < 3 then c + 1 else c) else if w = 2 then (if c ≤ 3 then c else c - 4) else if w = 3 then (if c < 8 then c + 4 else c) else c
def mor (how knew : Nat) : Nat := if how = 1 then (if knew = 0 then 3 else 0) else if how = 2 then (if 2 < knew then 2 else 0) else 1
def tgh (how knew quick : Nat) : Nat := if how = 3 then knew - 1 else if 9 < knew + (mor how knew + if quick = 1 ∧ 0 < mor how knew then 1 else 0) then 9 else knew + (mor how knew + if quick = 1 ∧ 0 < mor how knew then 1 else 0)
/-- the first ground from g on, of n, that is there and in the cell; the machine's -9 if there is none -/
def grF (K : St) (th cell : Nat) : Nat → Nat → Nat
  | _, 0 => 4294967287
  | g, n + 1 => if th.testBit g = true ∧ K 2 g = cell then g else grF K th cell (g + 1) n
def grA (K : St) (th cell : Nat) : Nat := grF K th cell 0 (K 0 1)
def wyO (K : St) (day : Nat) : Nat := if K 0 0 = 0 then 4 else K 1 (day % K 0 0)
def tog (P : Nat → Nat) (cell : Nat) : Nat → Nat
  | 0 => 0
  | n + 1 => tog P cell n + if P n = cell then 1 else 0
def fup (P : Nat → Nat) (i x : Nat) : Nat → Nat := fun j => if j = i then x else P j
abbrev may (K : St) (th c : Nat) (P : Nat → Nat) : Prop := grA K th (P c) ≠ 4294967287 ∧ (K 5 c = 2 → P 31 % 2 = 1) ∧ (K 5 c = 3 → tog P (P c) (K 0 2) = 1)
def lrn (K : St) (th c : Nat) (P : Nat → Nat) : Nat → Nat := if may K th c P then fup P (6 + 5 * c + K 3 (grA K th (P c))) (tgh (K 4 (grA K th (P c))) (P (6 + 5 * c + K 3 (grA K th (P c)))) (if K 5 c = 1 then 1 else 0)) else P
def dri (w : Nat) (P : Nat → Nat) : Nat → Nat → Nat
  | 0 => P
  | n + 1 => fup (dri w P n) n (if (P 5).testBit n = true then P n else onw (P n) w)
def lrF (K : St) (th : Nat) (P : Nat → Nat) : Nat → Nat → Nat
  | 0 => P
  | n + 1 => lrn K th n (lrF K th P n)
def ps2 (K : St) (w th : Nat) (P : Nat → Nat) : Nat → Nat := lrF K th (dri w P (K 0 2)) (K 0 2)
def psn (K : St) (w th : Nat) (P : Nat → Nat) : Nat → Nat := fup (ps2 K w th P) 31 (ps2 K w th P 31 + 1)
def wtF (P : Nat → Nat) (c : Nat) : Nat → Nat
  | 0 => 0
  | n + 1 => wtF P c n + P (6 + 5 * c + n)
def wtS (P : Nat → Nat) : Nat → Nat
  | 0 => 0
  | n + 1 => wtS P n + wtF P n 5
def chA (P : Nat → Nat) (cell : Nat) : Nat → Nat
  | 0 => 0
  | n + 1 => chA P cell n ||| (if P n = cell then 1 * 2 ^ n else 0)
def pM (σ : St) (L : Nat) : Nat → Nat := fun i => σ 6 (32 * L + i)
def stM (σ : St) (L : Nat) (P : Nat → Nat) : St := fun k i => if k = 6 ∧ 32 * L ≤ i then P (i - 32 * L) else σ k i
theorem stM_self (σ : St) (L : Nat) : stM σ L (pM σ L) = σ := by
  funext k i
  unfold stM pM
  split
  · rename_i h
    rw [h.1, show 32 * L + (i - 32 * L) = i by omega]
  · rfl
theorem pM_stM (σ : St) (L : Nat) (P : Nat → Nat) : pM (stM σ L P) L = P := by
  funext i
  simp [stM, pM]
theorem stM_get (σ : St) (L : Nat) (P : Nat → Nat) (i : Nat) : stM σ L P 6 (32 * L + i) = P i := by simp [stM]
theorem stM_put (σ : St) (L : Nat) (P : Nat → Nat) (i x : Nat) : pt (stM σ L P) 6 (32 * L + i) x = stM σ L (fup P i x) := by
  funext k j
  unfold pt stM fup
  by_cases h : k = 6 ∧ 32 * L ≤ j
  · rw [if_pos h, if_pos h]
    by_cases e : j = 32 * L + i
    · rw [if_pos ⟨h.1, e⟩, if_pos (by omega)]
    · rw [if_neg (fun q => e q.2), if_neg (by omega)]
  · rw [if_neg h, if_neg h, if_neg]
    rintro ⟨rfl, rfl⟩
    exact h ⟨rfl, by omega⟩
theorem stM_o {σ : St} {L k : Nat} {P : Nat → Nat} (h : k ≠ 6) : stM σ L P k = σ k := by
  funext i
  simp [stM, h]
theorem stM_stM (σ : St) (L : Nat) (P P' : Nat → Nat) : stM (stM σ L P) L P' = stM σ L P' := by
  funext k i
  unfold stM
  split <;> rfl
def OKK (K : St) : Prop := K 0 0 ≤ 4 ∧ K 0 1 ≤ 6 ∧ K 0 2 ≤ 5 ∧ (∀ i, i < K 0 0 → K 1 i ≤ 4) ∧ (∀ g, g < K 0 1 → K 2 g < 12 ∧ K 3 g < 5 ∧ K 4 g < 4) ∧ (∀ c, c < K 0 2 → K 5 c < 4)
def OKP (P : Nat → Nat) : Prop := (∀ i, i < 5 → P i < 12) ∧ P 5 < 32 ∧ (∀ i, i < 25 → P (6 + i) ≤ 9)
/-- two coasts that tell the same -/
def KEq (K K' : St) : Prop := K 0 0 = K' 0 0 ∧ K 0 1 = K' 0 1 ∧ K 0 2 = K' 0 2 ∧ ∀ k, 1 ≤ k → k ≤ 5 → K k = K' k
theorem KEq.symm {K K' : St} (h : KEq K K') : KEq K' K := ⟨h.1.symm, h.2.1.symm, h.2.2.1.symm, fun k h1 h2 => (h.2.2.2 k h1 h2).symm⟩
theorem grF_K {K K' : St} (h : KEq K K') (th cell : Nat) : ∀ n g, grF K th cell g n = grF K' th cell g n
  | 0, _ => rfl
  | n + 1, g => by
    unfold grF
    rw [h.2.2.2 2 (by decide) (by decide), grF_K h th cell n (g + 1)]
theorem grA_K {K K' : St} (h : KEq K K') (th cell : Nat) : grA K th cell = grA K' th cell := by
  unfold grA
  rw [h.2.1]
  exact grF_K h th cell _ _
theorem lrn_K {K K' : St} (h : KEq K K') (th c : Nat) (P : Nat → Nat) : lrn K th c P = lrn K' th c P := by
  unfold lrn may
  rw [grA_K h, h.2.2.1, h.2.2.2 3 (by decide) (by decide), h.2.2.2 4 (by decide) (by decide), h.2.2.2 5 (by decide) (by decide)]
theorem lrF_K {K K' : St} (h : KEq K K') (th : Nat) (P : Nat → Nat) : ∀ n, lrF K th P n = lrF K' th P n
  | 0 => rfl
  | n + 1 => by
    unfold lrF
    rw [lrF_K h th P n, lrn_K h]
theorem psn_K {K K' : St} (h : KEq K K') (w th : Nat) (P : Nat → Nat) : psn K w th P = psn K' w th P := by
  unfold psn ps2
  rw [h.2.2.1, lrF_K h]
theorem wyO_K {K K' : St} (h : KEq K K') (day : Nat) : wyO K day = wyO K' day := by
  unfold wyO
  rw [h.1, h.2.2.2 1 (by decide) (by decide)]
theorem OKK_K {K K' : St} (h : KEq K K') (o : OKK K) : OKK K' := by
  unfold OKK at *
  rw [← h.1, ← h.2.1, ← h.2.2.1, ← h.2.2.2 1 (by decide) (by decide), ← h.2.2.2 2 (by decide) (by decide), ← h.2.2.2 3 (by decide) (by decide), ← h.2.2.2 4 (by decide) (by decide), ← h.2.2.2 5 (by decide) (by decide)]
  exact o
theorem KEq_stM (σ : St) (L : Nat) (P : Nat → Nat) : KEq (stM σ L P) σ := ⟨by rw [stM_o (by decide)], by rw [stM_o (by decide)], by rw [stM_o (by decide)], fun k _ hk => stM_o (by omega)⟩
/-- what grF finds -/
theorem grF_or (K : St) (th cell : Nat) : ∀ n g, grF K th cell g n = 4294967287 ∨ (g ≤ grF K th cell g n ∧ grF K th cell g n < g + n)
  | 0, _ => Or.inl rfl
  | n + 1, g => by
    unfold grF
    split
    · exact Or.inr ⟨Nat.le_refl _, by omega⟩
    · rcases grF_or K th cell n (g + 1) with h | h
      · exact Or.inl h
      · exact Or.inr ⟨by omega, by omega⟩
theorem grA_or {K : St} (o : OKK K) (th cell : Nat) : grA K th cell = 4294967287 ∨ grA K th cell < K 0 1 := by
  rcases grF_or K th cell (K 0 1) 0 with h | h
  · exact Or.inl h
  · exact Or.inr (by unfold grA; omega)
theorem onw_lt {c w : Nat} (h : c < 12) : onw c w < 12 := by
  unfold onw
  repeat' split
  all_goals omega
theorem tgh_le {how knew quick : Nat} (h : knew ≤ 9) : tgh how knew quick ≤ 9 := by
  unfold tgh
  repeat' split
  all_goals omega
theorem tog_le (P : Nat → Nat) (cell : Nat) : ∀ n, tog P cell n ≤ n
  | 0 => Nat.le_refl _
  | n + 1 => by
    have := tog_le P cell n
    unfold tog
    split <;> omega
theorem fup_s (P : Nat → Nat) (i x : Nat) : fup P i x i = x := by simp [fup]
theorem fup_o {P : Nat → Nat} {i x j : Nat} (h : j ≠ i) : fup P i x j = P j := by simp [fup, h]
theorem nI_dec {a : Nat} (h : 0 < a) : nI (a + 4294967295) = nI (a - 1) := by
  obtain ⟨b, rfl⟩ : ∃ b, a = b + 1 := ⟨a - 1, by omega⟩
  show Int32.ofNat _ = Int32.ofNat _
  apply Int32.toBitVec_inj.1
  show BitVec.ofNat 32 _ = BitVec.ofNat 32 _
  apply BitVec.eq_of_toNat_eq
  rw [BitVec.toNat_ofNat, BitVec.toNat_ofNat]
  omega
