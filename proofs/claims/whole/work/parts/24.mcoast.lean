/-! a part of the text, the whole text, a coast: the model -/
theorem cbF_bit {f : Nat → Nat} {v : Nat} : ∀ {n : Nat}, (cbF f n).testBit v = true ↔ ∃ i, i < n ∧ f i = v
  | 0 => by
    unfold cbF
    rw [Nat.zero_testBit]
    constructor
    · intro h; cases h
    · rintro ⟨i, hi, -⟩; omega
  | n + 1 => by
    unfold cbF
    rw [Nat.testBit_or, Bool.or_eq_true, cbF_bit (n := n), Nat.one_mul, Nat.testBit_two_pow, decide_eq_true_eq]
    constructor
    · rintro (⟨i, hi, h⟩ | h)
      · exact ⟨i, by omega, h⟩
      · exact ⟨n, by omega, h⟩
    · rintro ⟨i, hi, h⟩
      rcases (show i < n ∨ i = n by omega) with q | rfl
      · exact Or.inl ⟨i, q, h⟩
      · exact Or.inr h
theorem b31 : ∀ v, v ≤ 11 → (Nat.testBit 31 v = true ↔ v ≤ 4) := by decide +kernel
theorem b15 : ∀ v, v ≤ 11 → (Nat.testBit 15 v = true ↔ v ≤ 3) := by decide +kernel
theorem b4095 : ∀ v, v ≤ 11 → Nat.testBit 4095 v = true := by decide +kernel
theorem b32 : ∀ v, v ≤ 11 → Nat.testBit 4294967295 v = true := by decide +kernel
theorem ball {x v : Nat} (h : v ≤ 11) : (4095 &&& (x ^^^ 4294967295)).testBit v = true ↔ x.testBit v = false := by
  rw [Nat.testBit_and, Nat.testBit_xor, b4095 v h, b32 v h]
  cases x.testBit v <;> decide
theorem cbF_cong {f g : Nat → Nat} : ∀ {n : Nat}, (∀ i, i < n → f i = g i) → cbF f n = cbF g n
  | 0, _ => rfl
  | n + 1, h => by
    unfold cbF
    rw [cbF_cong (fun i hi => h i (by omega)), h n (by omega)]
def OKT (K : St) : Prop := OKK K ∧ (∀ c, c < K 0 2 → K 6 c < 12) ∧ ∀ g h, g < K 0 1 → h < K 0 1 → K 2 g = K 2 h → g = h
def RM (σ K : St) : Prop := σ 0 12 = K 0 0 ∧ σ 0 13 = K 0 1 ∧ σ 0 14 = K 0 2 ∧ (∀ i, i < K 0 0 → σ 7 i = K 1 i) ∧ (∀ g, g < K 0 1 → σ 8 (3 * g) = K 2 g ∧ σ 8 (3 * g + 1) = K 3 g ∧ σ 8 (3 * g + 2) = K 4 g) ∧ (∀ c, c < K 0 2 → σ 9 (2 * c) = K 6 c ∧ σ 9 (2 * c + 1) = K 5 c) ∧ σ 0 15 = cbF (K 2) (K 0 1)
def AG (σ u : St) : Prop := ∀ k i, k ≠ 7 → k ≠ 8 → k ≠ 9 → (k ≠ 0 ∨ (i ≠ 12 ∧ i ≠ 13 ∧ i ≠ 14 ∧ i ≠ 15 ∧ i ≠ 18 ∧ i ≠ 19)) → u k i = σ k i
theorem AG.rf (σ : St) : AG σ σ := fun _ _ _ _ _ _ => rfl
theorem AG.tr {σ u w : St} (h : AG σ u) (h2 : AG u w) : AG σ w := fun k i a b c e => (h2 k i a b c e).trans (h k i a b c e)
theorem AG.td (σ : St) (z al : Nat) : AG σ (tdM σ z al).2 := fun k i _ _ _ e => td_o (by omega)
theorem AG.pt {σ : St} {k i x : Nat} (h : k = 7 ∨ k = 8 ∨ k = 9 ∨ (k = 0 ∧ (i = 12 ∨ i = 13 ∨ i = 14 ∨ i = 15 ∨ i = 18 ∨ i = 19))) : AG σ (pt σ k i x) := fun k' i' a b c e => pt_ne (by omega)
theorem rs_neg {s K : St} {d z al len : Nat} {tx : Nat → Nat} (hf : s 0 19 = 4294967287) (hd : d ≠ 1) (hlen : s 0 17 = len) (htx : s 10 = tx) (ha : s 0 18 ≤ len) (hc : ¬ tdC s z al) (hst : ∀ x, ¬ (z ≤ x ∧ x - z ≤ 11 ∧ al.testBit (x - z) = true) → stp d x K = none) : rs tx (len - s 0 18) d (s 0 18) K = (s 0 18, K) := by
  rcases (show s 0 18 = len ∨ s 0 18 < len by omega) with h | h
  · rw [h, Nat.sub_self, rs, if_neg hd]
  · obtain ⟨n, hn⟩ : ∃ n, len - s 0 18 = n + 1 := ⟨len - s 0 18 - 1, by omega⟩
    rw [hn, rs_none]
    refine hst _ (fun q => hc ⟨hf, by omega, ?_⟩)
    rw [htx]
    exact q
theorem rs_pos {s K K' : St} {d d' z al len : Nat} {tx : Nat → Nat} (hlen : s 0 17 = len) (htx : s 10 = tx) (hc : tdC s z al) (hst : stp d (s 10 (s 0 18)) K = some (d', K')) : rs tx (len - s 0 18) d (s 0 18) K = rs tx (len - (s 0 18 + 1)) d' (s 0 18 + 1) K' := by
  have h := hc.2.1
  obtain ⟨n, hn⟩ : ∃ n, len - s 0 18 = n + 1 := ⟨len - s 0 18 - 1, by omega⟩
  rw [hn, rs_some (by rw [← htx]; exact hst), show len - (s 0 18 + 1) = n by omega]
theorem st2 {K : St} {x : Nat} : stp 2 x K = if 48 ≤ x ∧ x ≤ 52 then some (1, pt (pt K 1 (K 0 0) (x - 48)) 0 0 (K 0 0 + 1)) else none := rfl
theorem st3 {K : St} {x : Nat} : stp 3 x K = if 97 ≤ x ∧ x ≤ 108 ∧ ∀ g, g < K 0 1 → K 2 g ≠ x - 97 then some (4, pt K 2 (K 0 1) (x - 97)) else none := rfl
theorem st4 {K : St} {x : Nat} : stp 4 x K = if 48 ≤ x ∧ x ≤ 52 then some (5, pt K 3 (K 0 1) (x - 48)) else none := rfl
theorem st5 {K : St} {x : Nat} : stp 5 x K = if 48 ≤ x ∧ x ≤ 51 then some (1, pt (pt K 4 (K 0 1) (x - 48)) 0 1 (K 0 1 + 1)) else none := rfl
theorem st6 {K : St} {x : Nat} : stp 6 x K = if 97 ≤ x ∧ x ≤ 108 then some (7, pt K 6 (K 0 2) (x - 97)) else none := rfl
theorem st7 {K : St} {x : Nat} : stp 7 x K = if 48 ≤ x ∧ x ≤ 51 then some (1, pt (pt K 5 (K 0 2) (x - 48)) 0 2 (K 0 2 + 1)) else none := rfl
theorem td_bad {s : St} {z al : Nat} (h : s 0 19 ≠ 4294967287) : tdM s z al = (0, s) := by
  rw [tdM_f (fun q => h q.1), if_neg h]
theorem td_no {s : St} {z al : Nat} (hf : s 0 19 = 4294967287) (h : ¬ tdC s z al) : tdM s z al = (0, pt s 0 19 (s 0 18)) := by
  rw [tdM_f h, if_pos hf]
/-- what is known behind a part: it goes on, or there is a fault -/
def PO (tx : Nat → Nat) (len : Nat) (R : Nat × St) (u : St) : Prop := (u 0 19 = 4294967287 ∧ ∃ K', RM u K' ∧ OKT K' ∧ u 0 18 ≤ len ∧ R = rs tx (len - u 0 18) 1 (u 0 18) K') ∨ (u 0 19 ≤ 48 ∧ R.1 = u 0 19)
theorem part_T {σ K : St} {len : Nat} {tx : Nat → Nat} (hr : RM σ K) (ok : OKT K) (hf : σ 0 19 = 4294967287) (hlen : σ 0 17 = len) (h48 : len ≤ 48) (htx : σ 10 = tx) (hi : σ 0 18 < len) (hT : K 0 0 < 4) : PO tx len (rs tx (len - (σ 0 18 + 1)) 2 (σ 0 18 + 1) K) (rpT σ) := by
  have e18 : rg0 σ 0 18 = σ 0 18 + 1 := pt_at _ _ _ _
  have e19 : rg0 σ 0 19 = 4294967287 := (pt_ne (by omega)).trans hf
  have e17 : rg0 σ 0 17 = len := (pt_ne (by omega)).trans hlen
  have e10 : rg0 σ 10 = tx := (pt_o (by decide)).trans htx
  have hu : rpT σ = pt (pt (tdM (rg0 σ) 48 31).2 7 (σ 0 12) (tdM (rg0 σ) 48 31).1) 0 12 (σ 0 12 + 1) := rfl
  obtain ⟨r12, r13, r14, r7, r8, r9, r15⟩ := hr
  obtain ⟨⟨o0, o1, o2, o3, o4, o5⟩, ok2, ok3⟩ := id ok
  by_cases c : tdC (rg0 σ) 48 31
  · obtain ⟨c1, c2, c3, c4, c5⟩ := id c
    have hx : 48 ≤ rg0 σ 10 (rg0 σ 0 18) ∧ rg0 σ 10 (rg0 σ 0 18) ≤ 52 := ⟨c3, by have := (b31 _ c4).mp c5; omega⟩
    have hs := rs_pos (tx := tx) (len := len) (d := 2) (K := K) e17 e10 c (by rw [st2, if_pos hx])
    rw [e18] at hs
    rw [hs]
    generalize hv : rg0 σ 10 (σ 0 18 + 1) = x at *
    rw [e18, hv] at hx
    have hu2 : rpT σ = pt (pt (pt (rg0 σ) 0 18 (σ 0 18 + 1 + 1)) 7 (σ 0 12) (x - 48)) 0 12 (σ 0 12 + 1) := by
      rw [hu, tdM_t c, e18, hv]
    have u19 : rpT σ 0 19 = 4294967287 := by rw [hu2, pt_ne (by omega), pt_ne (by omega), pt_ne (by omega)]; exact e19
    have u18 : rpT σ 0 18 = σ 0 18 + 1 + 1 := by rw [hu2, pt_ne (by omega), pt_ne (by omega), pt_at]
    have uo : ∀ k i, k ≠ 7 → (k ≠ 0 ∨ (i ≠ 12 ∧ i ≠ 18)) → rpT σ k i = σ k i := fun k i h1 h2 => by
      rw [hu2, pt_ne (by omega), pt_ne (by omega), pt_ne (by omega)]
      exact pt_ne (by omega)
    refine Or.inl ⟨u19, pt (pt K 1 (K 0 0) (x - 48)) 0 0 (K 0 0 + 1), ⟨?_, ?_, ?_, ?_, ?_, ?_, ?_⟩, ⟨⟨?_, ?_, ?_, ?_, ?_, ?_⟩, ?_, ?_⟩, by rw [u18]; rw [e18] at c2; omega, by rw [u18]⟩
    · rw [hu2, pt_at, pt_at, r12]
    · rw [uo _ _ (by omega) (by omega), r13, pt_ne (by omega), pt_ne (by omega)]
    · rw [uo _ _ (by omega) (by omega), r14, pt_ne (by omega), pt_ne (by omega)]
    · intro i h
      rw [pt_at] at h
      rw [hu2, pt_ne (by omega), pt_ne (k := 0) (by omega)]
      rcases (show i < K 0 0 ∨ i = K 0 0 by omega) with q | q
      · rw [pt_ne (by omega), pt_ne (by omega), pt_ne (by omega), show rg0 σ 7 i = σ 7 i from pt_ne (by omega)]; exact r7 i q
      · rw [q, ← r12, pt_at, pt_at]
    · intro g h
      rw [pt_ne (by omega), pt_ne (by omega)] at h
      rw [uo _ _ (by omega) (by omega), uo _ _ (by omega) (by omega), uo _ _ (by omega) (by omega), pt_ne (by omega), pt_ne (by omega), pt_ne (by omega), pt_ne (by omega), pt_ne (by omega), pt_ne (by omega)]
      exact r8 g h
    · intro g h
      rw [pt_ne (by omega), pt_ne (by omega)] at h
      rw [uo _ _ (by omega) (by omega), uo _ _ (by omega) (by omega), pt_ne (by omega), pt_ne (by omega), pt_ne (by omega), pt_ne (by omega)]
      exact r9 g h
    · rw [uo _ _ (by omega) (by omega), r15, pt_ne (by omega), pt_ne (by omega), pt_o (by decide), pt_o (by decide)]
    · rw [pt_at]; omega
    · rw [pt_ne (by omega), pt_ne (by omega)]; exact o1
    · rw [pt_ne (by omega), pt_ne (by omega)]; exact o2
    · intro i h
      rw [pt_at] at h
      rw [pt_ne (by omega)]
      rcases (show i < K 0 0 ∨ i = K 0 0 by omega) with q | q
      · rw [pt_ne (by omega)]; exact o3 i q
      · rw [q, pt_at]; omega
    · intro g h
      rw [pt_ne (by omega), pt_ne (by omega)] at h
      rw [pt_ne (by omega), pt_ne (by omega), pt_ne (by omega), pt_ne (by omega), pt_ne (by omega), pt_ne (by omega)]
      exact o4 g h
    · intro g h
      rw [pt_ne (by omega), pt_ne (by omega)] at h
      rw [pt_ne (by omega), pt_ne (by omega)]
      exact o5 g h
    · intro g h
      rw [pt_ne (by omega), pt_ne (by omega)] at h
      rw [pt_ne (by omega), pt_ne (by omega)]
      exact ok2 g h
    · intro g h h1 h2 h3
      rw [pt_ne (by omega), pt_ne (by omega)] at h1 h2
      rw [pt_ne (by omega), pt_ne (by omega), pt_ne (by omega), pt_ne (by omega)] at h3
      exact ok3 g h h1 h2 h3
  · have hs := rs_neg (tx := tx) (len := len) (d := 2) (K := K) e19 (by decide) e17 e10 (by rw [e18]; omega) c (fun x hx => by
      rw [st2, if_neg]
      intro q
      exact hx ⟨q.1, by omega, (b31 _ (by omega)).mpr (by omega)⟩)
    rw [e18] at hs
    rw [hs]
    have hu2 : rpT σ 0 19 = σ 0 18 + 1 := by
      rw [hu, td_no e19 c, pt_ne (by omega), pt_ne (by omega)]
      show pt (rg0 σ) 0 19 (rg0 σ 0 18) 0 19 = _
      rw [pt_at, e18]
    exact Or.inr ⟨by omega, hu2.symm⟩
theorem part_C {σ K : St} {len : Nat} {tx : Nat → Nat} (hr : RM σ K) (ok : OKT K) (hf : σ 0 19 = 4294967287) (hlen : σ 0 17 = len) (h48 : len ≤ 48) (htx : σ 10 = tx) (hi : σ 0 18 < len) (hT : K 0 2 < 5) : PO tx len (rs tx (len - (σ 0 18 + 1)) 6 (σ 0 18 + 1) K) (rpC σ) := by
  have e18 : rg0 σ 0 18 = σ 0 18 + 1 := pt_at _ _ _ _
  have e19 : rg0 σ 0 19 = 4294967287 := (pt_ne (by omega)).trans hf
  have e17 : rg0 σ 0 17 = len := (pt_ne (by omega)).trans hlen
  have e10 : rg0 σ 10 = tx := (pt_o (by decide)).trans htx
  have hu : rpC σ = pt (pt (rc2 σ).2 9 (2 * σ 0 14 + 1) (rc2 σ).1) 0 14 (σ 0 14 + 1) := rfl
  obtain ⟨r12, r13, r14, r7, r8, r9, r15⟩ := hr
  obtain ⟨⟨o0, o1, o2, o3, o4, o5⟩, ok2, ok3⟩ := id ok
  by_cases c : tdC (rg0 σ) 97 4095
  · obtain ⟨c1, c2, c3, c4, c5⟩ := id c
    have hs := rs_pos (tx := tx) (len := len) (d := 6) (K := K) e17 e10 c (by rw [st6, if_pos ⟨c3, by omega⟩])
    rw [e18] at hs c2 c3 c4
    rw [hs]
    have h1 : rc1 σ = (rg0 σ 10 (σ 0 18 + 1) - 97, pt (rg0 σ) 0 18 (σ 0 18 + 1 + 1)) := by rw [rc1, tdM_t c, e18]
    generalize hv : rg0 σ 10 (σ 0 18 + 1) = x at *
    have h2 : rc2 σ = tdM (pt (pt (rg0 σ) 0 18 (σ 0 18 + 1 + 1)) 9 (2 * σ 0 14) (x - 97)) 48 15 := by rw [rc2, h1]
    generalize hS : pt (pt (rg0 σ) 0 18 (σ 0 18 + 1 + 1)) 9 (2 * σ 0 14) (x - 97) = S at *
    have s18 : S 0 18 = σ 0 18 + 1 + 1 := by rw [← hS, pt_ne (by omega), pt_at]
    have s19 : S 0 19 = 4294967287 := by rw [← hS, pt_ne (by omega), pt_ne (by omega)]; exact e19
    have s17 : S 0 17 = len := by rw [← hS, pt_ne (by omega), pt_ne (by omega)]; exact e17
    have s10 : S 10 = tx := by rw [← hS, pt_o (by decide), pt_o (by decide)]; exact e10
    have so : ∀ k i, (k ≠ 9 ∨ i ≠ 2 * σ 0 14) → (k ≠ 0 ∨ i ≠ 18) → S k i = σ k i := fun k i h1 h2 => by
      rw [← hS, pt_ne (by omega), pt_ne (by omega)]
      exact pt_ne (by omega)
    by_cases d : tdC S 48 15
    · obtain ⟨d1, d2, d3, d4, d5⟩ := id d
      have hy : 48 ≤ S 10 (S 0 18) ∧ S 10 (S 0 18) ≤ 51 := ⟨d3, by have := (b15 _ d4).mp d5; omega⟩
      have hs2 := rs_pos (tx := tx) (len := len) (d := 7) (K := pt K 6 (K 0 2) (x - 97)) s17 s10 d (by rw [st7, if_pos hy])
      rw [s18] at hs2 d2 hy
      rw [hs2]
      have h3 : rc2 σ = (S 10 (σ 0 18 + 1 + 1) - 48, pt S 0 18 (σ 0 18 + 1 + 1 + 1)) := by rw [h2, tdM_t d, s18]
      generalize hw : S 10 (σ 0 18 + 1 + 1) = y at *
      have hu2 : rpC σ = pt (pt (pt S 0 18 (σ 0 18 + 1 + 1 + 1)) 9 (2 * σ 0 14 + 1) (y - 48)) 0 14 (σ 0 14 + 1) := by rw [hu, h3]
      have u19 : rpC σ 0 19 = 4294967287 := by rw [hu2, pt_ne (by omega), pt_ne (by omega), pt_ne (by omega)]; exact s19
      have u18 : rpC σ 0 18 = σ 0 18 + 1 + 1 + 1 := by rw [hu2, pt_ne (by omega), pt_ne (by omega), pt_at]
      have uo : ∀ k i, (k ≠ 9 ∨ (i ≠ 2 * σ 0 14 ∧ i ≠ 2 * σ 0 14 + 1)) → (k ≠ 0 ∨ (i ≠ 14 ∧ i ≠ 18)) → rpC σ k i = σ k i := fun k i h1 h2 => by
        rw [hu2, pt_ne (by omega), pt_ne (by omega), pt_ne (by omega)]
        exact so k i (by omega) (by omega)
      have hKd : pt K 6 (K 0 2) (x - 97) 0 2 = K 0 2 := pt_ne (by omega)
      rw [hKd]
      generalize hK' : pt (pt (pt K 6 (K 0 2) (x - 97)) 5 (K 0 2) (y - 48)) 0 2 (K 0 2 + 1) = K'
      have ko : ∀ k i, (k ≠ 6 ∨ i ≠ K 0 2) → (k ≠ 5 ∨ i ≠ K 0 2) → (k ≠ 0 ∨ i ≠ 2) → K' k i = K k i := fun k i h1 h2 h3 => by
        rw [← hK', pt_ne (by omega), pt_ne (by omega), pt_ne (by omega)]
      have k2 : K' 0 2 = K 0 2 + 1 := by rw [← hK', pt_at]
      have k6 : K' 6 (K 0 2) = x - 97 := by rw [← hK', pt_ne (by omega), pt_ne (by omega), pt_at]
      have k5 : K' 5 (K 0 2) = y - 48 := by rw [← hK', pt_ne (by omega), pt_at]
      have k0 : K' 0 0 = K 0 0 := ko _ _ (by omega) (by omega) (by omega)
      have k1 : K' 0 1 = K 0 1 := ko _ _ (by omega) (by omega) (by omega)
      refine Or.inl ⟨u19, K', ⟨?_, ?_, ?_, ?_, ?_, ?_, ?_⟩, ⟨⟨by omega, by omega, by omega, ?_, ?_, ?_⟩, ?_, ?_⟩, by rw [u18]; omega, by rw [u18]⟩
      · rw [uo _ _ (by omega) (by omega), k0, r12]
      · rw [uo _ _ (by omega) (by omega), k1, r13]
      · rw [hu2, pt_at, k2, r14]
      · intro i h
        rw [k0] at h
        rw [uo _ _ (by omega) (by omega), ko _ _ (by omega) (by omega) (by omega)]
        exact r7 i h
      · intro g h
        rw [k1] at h
        rw [uo _ _ (by omega) (by omega), uo _ _ (by omega) (by omega), uo _ _ (by omega) (by omega), ko _ _ (by omega) (by omega) (by omega), ko _ _ (by omega) (by omega) (by omega), ko _ _ (by omega) (by omega) (by omega)]
        exact r8 g h
      · intro g h
        rw [k2] at h
        rcases (show g < K 0 2 ∨ g = K 0 2 by omega) with q | q
        · rw [uo _ _ (by omega) (by omega), uo _ _ (by omega) (by omega), ko _ _ (by omega) (by omega) (by omega), ko _ _ (by omega) (by omega) (by omega)]
          exact r9 g q
        · rw [q, k6, k5]
          constructor
          · rw [hu2, pt_ne (by omega), pt_ne (by omega), pt_ne (by omega), ← hS, r14, pt_at]
          · rw [hu2, pt_ne (by omega), r14, pt_at]
      · rw [uo _ _ (by omega) (by omega), r15, k1]
        congr 1
        funext i
        exact (ko _ _ (by omega) (by omega) (by omega)).symm
      · intro i h
        rw [k0] at h
        rw [ko _ _ (by omega) (by omega) (by omega)]
        exact o3 i h
      · intro g h
        rw [k1] at h
        rw [ko _ _ (by omega) (by omega) (by omega), ko _ _ (by omega) (by omega) (by omega), ko _ _ (by omega) (by omega) (by omega)]
        exact o4 g h
      · intro g h
        rw [k2] at h
        rcases (show g < K 0 2 ∨ g = K 0 2 by omega) with q | q
        · rw [ko _ _ (by omega) (by omega) (by omega)]; exact o5 g q
        · rw [q, k5]; omega
      · intro g h
        rw [k2] at h
        rcases (show g < K 0 2 ∨ g = K 0 2 by omega) with q | q
        · rw [ko _ _ (by omega) (by omega) (by omega)]; exact ok2 g q
        · rw [q, k6]; omega
      · intro g h h1 h2 h3
        rw [k1] at h1 h2
        rw [ko _ _ (by omega) (by omega) (by omega), ko _ _ (by omega) (by omega) (by omega)] at h3
        exact ok3 g h h1 h2 h3
    · have hs2 := rs_neg (tx := tx) (len := len) (d := 7) (K := pt K 6 (K 0 2) (x - 97)) s19 (by decide) s17 s10 (by rw [s18]; omega) d (fun x hx => by
        rw [st7, if_neg]
        intro q
        exact hx ⟨q.1, by omega, (b15 _ (by omega)).mpr (by omega)⟩)
      rw [s18] at hs2
      rw [hs2]
      have hu2 : rpC σ 0 19 = σ 0 18 + 1 + 1 := by
        rw [hu, h2, td_no s19 d, pt_ne (by omega), pt_ne (by omega)]
        show pt S 0 19 (S 0 18) 0 19 = _
        rw [pt_at, s18]
      exact Or.inr ⟨by omega, hu2.symm⟩
  · have hs := rs_neg (tx := tx) (len := len) (d := 6) (K := K) e19 (by decide) e17 e10 (by rw [e18]; omega) c (fun x hx => by
      rw [st6, if_neg]
      intro q
      exact hx ⟨q.1, by omega, b4095 _ (by omega)⟩)
    rw [e18] at hs
    rw [hs]
    have h1 : rc1 σ = (0, pt (rg0 σ) 0 19 (σ 0 18 + 1)) := by rw [rc1, td_no e19 c, e18]
    have h2 : rc2 σ = (0, pt (pt (rg0 σ) 0 19 (σ 0 18 + 1)) 9 (2 * σ 0 14) 0) := by
      rw [rc2, h1]
      dsimp only
      exact td_bad (by rw [pt_ne (by omega), pt_at]; omega)
    have hu2 : rpC σ 0 19 = σ 0 18 + 1 := by
      rw [hu, h2]
      dsimp only
      rw [pt_ne (by omega), pt_ne (by omega), pt_ne (by omega), pt_at]
    exact Or.inr ⟨by omega, hu2.symm⟩
theorem part_G {σ K : St} {len : Nat} {tx : Nat → Nat} (hr : RM σ K) (ok : OKT K) (hf : σ 0 19 = 4294967287) (hlen : σ 0 17 = len) (h48 : len ≤ 48) (htx : σ 10 = tx) (hi : σ 0 18 < len) (hT : K 0 1 < 6) : PO tx len (rs tx (len - (σ 0 18 + 1)) 3 (σ 0 18 + 1) K) (rpG σ) := by
  have e18 : rg0 σ 0 18 = σ 0 18 + 1 := pt_at _ _ _ _
  have e19 : rg0 σ 0 19 = 4294967287 := (pt_ne (by omega)).trans hf
  have e17 : rg0 σ 0 17 = len := (pt_ne (by omega)).trans hlen
  have e10 : rg0 σ 10 = tx := (pt_o (by decide)).trans htx
  have hu : rpG σ = pt (pt (pt (rg3 σ).2 8 (3 * σ 0 13 + 2) (rg3 σ).1) 0 15 (σ 0 15 ||| 1 * 2 ^ (rg1 σ).1)) 0 13 (σ 0 13 + 1) := rfl
  obtain ⟨r12, r13, r14, r7, r8, r9, r15⟩ := hr
  obtain ⟨⟨o0, o1, o2, o3, o4, o5⟩, ok2, ok3⟩ := id ok
  have hbit : ∀ v, v ≤ 11 → ((4095 &&& (σ 0 15 ^^^ 4294967295)).testBit v = true ↔ ∀ g, g < K 0 1 → K 2 g ≠ v) := fun v hv => by
    rw [ball hv, r15]
    constructor
    · intro h g hg e
      rw [cbF_bit.mpr ⟨g, hg, e⟩] at h
      cases h
    · intro h
      rw [Bool.eq_false_iff]
      intro q
      obtain ⟨g, hg, e⟩ := cbF_bit.mp q
      exact h g hg e
  by_cases c : tdC (rg0 σ) 97 (4095 &&& (σ 0 15 ^^^ 4294967295))
  · obtain ⟨c1, c2, c3, c4, c5⟩ := id c
    have c6 := (hbit _ c4).mp c5
    have hs := rs_pos (tx := tx) (len := len) (d := 3) (K := K) e17 e10 c (by rw [st3, if_pos ⟨c3, by omega, c6⟩])
    rw [e18] at hs c2 c3 c4 c6
    rw [hs]
    have h1 : rg1 σ = (rg0 σ 10 (σ 0 18 + 1) - 97, pt (rg0 σ) 0 18 (σ 0 18 + 1 + 1)) := by rw [rg1, tdM_t c, e18]
    generalize hv : rg0 σ 10 (σ 0 18 + 1) = x at *
    have h2 : rg2 σ = tdM (pt (pt (rg0 σ) 0 18 (σ 0 18 + 1 + 1)) 8 (3 * σ 0 13) (x - 97)) 48 31 := by rw [rg2, h1]
    generalize hS : pt (pt (rg0 σ) 0 18 (σ 0 18 + 1 + 1)) 8 (3 * σ 0 13) (x - 97) = S at *
    have s18 : S 0 18 = σ 0 18 + 1 + 1 := by rw [← hS, pt_ne (by omega), pt_at]
    have s19 : S 0 19 = 4294967287 := by rw [← hS, pt_ne (by omega), pt_ne (by omega)]; exact e19
    have s17 : S 0 17 = len := by rw [← hS, pt_ne (by omega), pt_ne (by omega)]; exact e17
    have s10 : S 10 = tx := by rw [← hS, pt_o (by decide), pt_o (by decide)]; exact e10
    have so : ∀ k i, (k ≠ 8 ∨ i ≠ 3 * σ 0 13) → (k ≠ 0 ∨ i ≠ 18) → S k i = σ k i := fun k i h1 h2 => by
      rw [← hS, pt_ne (by omega), pt_ne (by omega)]
      exact pt_ne (by omega)
    have s8 : S 8 (3 * σ 0 13) = x - 97 := by rw [← hS, pt_at]
    have hK1 : pt K 2 (K 0 1) (x - 97) 0 1 = K 0 1 := pt_ne (by omega)
    by_cases d : tdC S 48 31
    · obtain ⟨d1, d2, d3, d4, d5⟩ := id d
      have hy : 48 ≤ S 10 (S 0 18) ∧ S 10 (S 0 18) ≤ 52 := ⟨d3, by have := (b31 _ d4).mp d5; omega⟩
      have hs2 := rs_pos (tx := tx) (len := len) (d := 4) (K := pt K 2 (K 0 1) (x - 97)) s17 s10 d (by rw [st4, if_pos hy])
      rw [s18] at hs2 d2 hy
      rw [hs2, hK1]
      have h3 : rg2 σ = (S 10 (σ 0 18 + 1 + 1) - 48, pt S 0 18 (σ 0 18 + 1 + 1 + 1)) := by rw [h2, tdM_t d, s18]
      generalize hw : S 10 (σ 0 18 + 1 + 1) = y at *
      have h4 : rg3 σ = tdM (pt (pt S 0 18 (σ 0 18 + 1 + 1 + 1)) 8 (3 * σ 0 13 + 1) (y - 48)) 48 15 := by rw [rg3, h3]
      generalize hR : pt (pt S 0 18 (σ 0 18 + 1 + 1 + 1)) 8 (3 * σ 0 13 + 1) (y - 48) = R at *
      have q18 : R 0 18 = σ 0 18 + 1 + 1 + 1 := by rw [← hR, pt_ne (by omega), pt_at]
      have q19 : R 0 19 = 4294967287 := by rw [← hR, pt_ne (by omega), pt_ne (by omega)]; exact s19
      have q17 : R 0 17 = len := by rw [← hR, pt_ne (by omega), pt_ne (by omega)]; exact s17
      have q10 : R 10 = tx := by rw [← hR, pt_o (by decide), pt_o (by decide)]; exact s10
      have qo : ∀ k i, (k ≠ 8 ∨ (i ≠ 3 * σ 0 13 ∧ i ≠ 3 * σ 0 13 + 1)) → (k ≠ 0 ∨ i ≠ 18) → R k i = σ k i := fun k i h1 h2 => by
        rw [← hR, pt_ne (by omega), pt_ne (by omega)]
        exact so k i (by omega) (by omega)
      have q8 : R 8 (3 * σ 0 13) = x - 97 := by rw [← hR, pt_ne (by omega), pt_ne (by omega)]; exact s8
      have q9 : R 8 (3 * σ 0 13 + 1) = y - 48 := by rw [← hR, pt_at]
      have hK2 : pt (pt K 2 (K 0 1) (x - 97)) 3 (K 0 1) (y - 48) 0 1 = K 0 1 := by rw [pt_ne (by omega), hK1]
      by_cases f : tdC R 48 15
      · obtain ⟨f1, f2, f3, f4, f5⟩ := id f
        have hz : 48 ≤ R 10 (R 0 18) ∧ R 10 (R 0 18) ≤ 51 := ⟨f3, by have := (b15 _ f4).mp f5; omega⟩
        have hs3 := rs_pos (tx := tx) (len := len) (d := 5) (K := pt (pt K 2 (K 0 1) (x - 97)) 3 (K 0 1) (y - 48)) q17 q10 f (by rw [st5, if_pos hz])
        rw [q18] at hs3 f2 hz
        rw [hs3, hK2]
        have h5 : rg3 σ = (R 10 (σ 0 18 + 1 + 1 + 1) - 48, pt R 0 18 (σ 0 18 + 1 + 1 + 1 + 1)) := by rw [h4, tdM_t f, q18]
        generalize hy2 : R 10 (σ 0 18 + 1 + 1 + 1) = z at *
        have hu2 : rpG σ = pt (pt (pt (pt R 0 18 (σ 0 18 + 1 + 1 + 1 + 1)) 8 (3 * σ 0 13 + 2) (z - 48)) 0 15 (σ 0 15 ||| 1 * 2 ^ (x - 97))) 0 13 (σ 0 13 + 1) := by rw [hu, h5, h1]
        have u19 : rpG σ 0 19 = 4294967287 := by rw [hu2, pt_ne (by omega), pt_ne (by omega), pt_ne (by omega), pt_ne (by omega)]; exact q19
        have u18 : rpG σ 0 18 = σ 0 18 + 1 + 1 + 1 + 1 := by rw [hu2, pt_ne (by omega), pt_ne (by omega), pt_ne (by omega), pt_at]
        have ur : ∀ k i, (k ≠ 8 ∨ i ≠ 3 * σ 0 13 + 2) → (k ≠ 0 ∨ (i ≠ 13 ∧ i ≠ 15 ∧ i ≠ 18)) → rpG σ k i = R k i := fun k i h1 h2 => by
          rw [hu2, pt_ne (by omega), pt_ne (by omega), pt_ne (by omega), pt_ne (by omega)]
        have uo : ∀ k i, (k ≠ 8 ∨ (i ≠ 3 * σ 0 13 ∧ i ≠ 3 * σ 0 13 + 1 ∧ i ≠ 3 * σ 0 13 + 2)) → (k ≠ 0 ∨ (i ≠ 13 ∧ i ≠ 15 ∧ i ≠ 18)) → rpG σ k i = σ k i := fun k i h1 h2 => by
          rw [ur k i (by omega) (by omega)]
          exact qo k i (by omega) (by omega)
        generalize hK' : pt (pt (pt (pt K 2 (K 0 1) (x - 97)) 3 (K 0 1) (y - 48)) 4 (K 0 1) (z - 48)) 0 1 (K 0 1 + 1) = K'
        have ko : ∀ k i, ((k ≠ 2 ∧ k ≠ 3 ∧ k ≠ 4) ∨ i ≠ K 0 1) → (k ≠ 0 ∨ i ≠ 1) → K' k i = K k i := fun k i h1 h2 => by
          rw [← hK', pt_ne (by omega), pt_ne (by omega), pt_ne (by omega), pt_ne (by omega)]
        have k1 : K' 0 1 = K 0 1 + 1 := by rw [← hK', pt_at]
        have k2 : K' 2 (K 0 1) = x - 97 := by rw [← hK', pt_ne (by omega), pt_ne (by omega), pt_ne (by omega), pt_at]
        have k3 : K' 3 (K 0 1) = y - 48 := by rw [← hK', pt_ne (by omega), pt_ne (by omega), pt_at]
        have k4 : K' 4 (K 0 1) = z - 48 := by rw [← hK', pt_ne (by omega), pt_at]
        have k0 : K' 0 0 = K 0 0 := ko _ _ (by omega) (by omega)
        have kc : K' 0 2 = K 0 2 := ko _ _ (by omega) (by omega)
        refine Or.inl ⟨u19, K', ⟨?_, ?_, ?_, ?_, ?_, ?_, ?_⟩, ⟨⟨by omega, by omega, by omega, ?_, ?_, ?_⟩, ?_, ?_⟩, by rw [u18]; omega, by rw [u18]⟩
        · rw [uo _ _ (by omega) (by omega), k0, r12]
        · rw [hu2, pt_at, k1, r13]
        · rw [uo _ _ (by omega) (by omega), kc, r14]
        · intro i h
          rw [k0] at h
          rw [uo _ _ (by omega) (by omega), ko _ _ (by omega) (by omega)]
          exact r7 i h
        · intro g h
          rw [k1] at h
          rcases (show g < K 0 1 ∨ g = K 0 1 by omega) with q | q
          · rw [uo _ _ (by omega) (by omega), uo _ _ (by omega) (by omega), uo _ _ (by omega) (by omega), ko _ _ (by omega) (by omega), ko _ _ (by omega) (by omega), ko _ _ (by omega) (by omega)]
            exact r8 g q
          · rw [q, k2, k3, k4, ← r13]
            refine ⟨?_, ?_, ?_⟩
            · rw [ur _ _ (by omega) (by omega), q8]
            · rw [ur _ _ (by omega) (by omega), q9]
            · rw [hu2, pt_ne (by omega), pt_ne (by omega), pt_at]
        · intro g h
          rw [kc] at h
          rw [uo _ _ (by omega) (by omega), uo _ _ (by omega) (by omega), ko _ _ (by omega) (by omega), ko _ _ (by omega) (by omega)]
          exact r9 g h
        · rw [hu2, pt_ne (by omega), pt_at, r15, k1, cbF, k2]
          congr 1
          exact cbF_cong (fun i hi => (ko 2 i (by omega) (by omega)).symm)
        · intro i h
          rw [k0] at h
          rw [ko _ _ (by omega) (by omega)]
          exact o3 i h
        · intro g h
          rw [k1] at h
          rcases (show g < K 0 1 ∨ g = K 0 1 by omega) with q | q
          · rw [ko _ _ (by omega) (by omega), ko _ _ (by omega) (by omega), ko _ _ (by omega) (by omega)]
            exact o4 g q
          · rw [q, k2, k3, k4]; omega
        · intro g h
          rw [kc] at h
          rw [ko _ _ (by omega) (by omega)]; exact o5 g h
        · intro g h
          rw [kc] at h
          rw [ko _ _ (by omega) (by omega)]; exact ok2 g h
        · intro g h h1 h2 h3
          rw [k1] at h1 h2
          rcases (show g < K 0 1 ∨ g = K 0 1 by omega) with q | q
          · rcases (show h < K 0 1 ∨ h = K 0 1 by omega) with q2 | q2
            · rw [ko _ _ (by omega) (by omega), ko _ _ (by omega) (by omega)] at h3
              exact ok3 g h q q2 h3
            · rw [q2, k2, ko _ _ (by omega) (by omega)] at h3
              exact absurd h3 (c6 g q)
          · rcases (show h < K 0 1 ∨ h = K 0 1 by omega) with q2 | q2
            · rw [q, k2, ko _ _ (by omega) (by omega)] at h3
              exact absurd h3.symm (c6 h q2)
            · omega
      · have hs3 := rs_neg (tx := tx) (len := len) (d := 5) (K := pt (pt K 2 (K 0 1) (x - 97)) 3 (K 0 1) (y - 48)) q19 (by decide) q17 q10 (by rw [q18]; omega) f (fun x hx => by
          rw [st5, if_neg]
          intro q
          exact hx ⟨q.1, by omega, (b15 _ (by omega)).mpr (by omega)⟩)
        rw [q18] at hs3
        rw [hs3]
        have hu2 : rpG σ 0 19 = σ 0 18 + 1 + 1 + 1 := by
          rw [hu, h4, td_no q19 f, pt_ne (by omega), pt_ne (by omega), pt_ne (by omega)]
          show pt R 0 19 (R 0 18) 0 19 = _
          rw [pt_at, q18]
        exact Or.inr ⟨by omega, hu2.symm⟩
    · have hs2 := rs_neg (tx := tx) (len := len) (d := 4) (K := pt K 2 (K 0 1) (x - 97)) s19 (by decide) s17 s10 (by rw [s18]; omega) d (fun x hx => by
        rw [st4, if_neg]
        intro q
        exact hx ⟨q.1, by omega, (b31 _ (by omega)).mpr (by omega)⟩)
      rw [s18] at hs2
      rw [hs2]
      have h3 : rg2 σ = (0, pt S 0 19 (σ 0 18 + 1 + 1)) := by rw [h2, td_no s19 d, s18]
      have h4 : rg3 σ = (0, pt (pt S 0 19 (σ 0 18 + 1 + 1)) 8 (3 * σ 0 13 + 1) 0) := by
        rw [rg3, h3]
        dsimp only
        exact td_bad (by rw [pt_ne (by omega), pt_at]; omega)
      have hu2 : rpG σ 0 19 = σ 0 18 + 1 + 1 := by
        rw [hu, h4]
        dsimp only
        rw [pt_ne (by omega), pt_ne (by omega), pt_ne (by omega), pt_ne (by omega), pt_at]
      exact Or.inr ⟨by omega, hu2.symm⟩
  · have hs := rs_neg (tx := tx) (len := len) (d := 3) (K := K) e19 (by decide) e17 e10 (by rw [e18]; omega) c (fun x hx => by
      rw [st3, if_neg]
      intro q
      exact hx ⟨q.1, by omega, (hbit _ (by omega)).mpr q.2.2⟩)
    rw [e18] at hs
    rw [hs]
    have h1 : rg1 σ = (0, pt (rg0 σ) 0 19 (σ 0 18 + 1)) := by rw [rg1, td_no e19 c, e18]
    have h2 : rg2 σ = (0, pt (pt (rg0 σ) 0 19 (σ 0 18 + 1)) 8 (3 * σ 0 13) 0) := by
      rw [rg2, h1]
      dsimp only
      exact td_bad (by rw [pt_ne (by omega), pt_at]; omega)
    have h3 : rg3 σ = (0, pt (pt (pt (rg0 σ) 0 19 (σ 0 18 + 1)) 8 (3 * σ 0 13) 0) 8 (3 * σ 0 13 + 1) 0) := by
      rw [rg3, h2]
      dsimp only
      exact td_bad (by rw [pt_ne (by omega), pt_ne (by omega), pt_at]; omega)
    have hu2 : rpG σ 0 19 = σ 0 18 + 1 := by
      rw [hu, h3]
      dsimp only
      rw [pt_ne (by omega), pt_ne (by omega), pt_ne (by omega), pt_ne (by omega), pt_ne (by omega), pt_at]
    exact Or.inr ⟨by omega, hu2.symm⟩
