/-! TWO COASTS THAT TELL THE SAME (what lies behind the counts is left out), two pots that are the same: the answers are the same -/
def KC (K K' : St) : Prop := K 0 0 = K' 0 0 ∧ K 0 1 = K' 0 1 ∧ K 0 2 = K' 0 2 ∧ (∀ i, i < K 0 0 → K 1 i = K' 1 i) ∧ (∀ g, g < K 0 1 → K 2 g = K' 2 g ∧ K 3 g = K' 3 g ∧ K 4 g = K' 4 g) ∧ (∀ c, c < K 0 2 → K 5 c = K' 5 c)
section KCS
variable {K K' : St}
theorem OKK_C (h : KC K K') (o : OKK K) : OKK K' := by
  obtain ⟨h0, h1, h2, h3, h4, h5⟩ := h
  obtain ⟨o0, o1, o2, o3, o4, o5⟩ := o
  refine ⟨by omega, by omega, by omega, fun i hi => ?_, fun g hg => ?_, fun c hc => ?_⟩
  · rw [← h3 i (by omega)]; exact o3 i (by omega)
  · have := h4 g (by omega)
    rw [← this.1, ← this.2.1, ← this.2.2]; exact o4 g (by omega)
  · rw [← h5 c (by omega)]; exact o5 c (by omega)
theorem grF_C (h : KC K K') (th cell : Nat) : ∀ n g, g + n ≤ K 0 1 → grF K th cell g n = grF K' th cell g n
  | 0, _, _ => rfl
  | n + 1, g, hg => by
    unfold grF
    rw [(h.2.2.2.2.1 g (by omega)).1, grF_C h th cell n (g + 1) (by omega)]
theorem grA_C (h : KC K K') (th cell : Nat) : grA K th cell = grA K' th cell := by
  unfold grA
  rw [← h.2.1]
  exact grF_C h th cell _ _ (by omega)
theorem lrn_C (o : OKK K) (h : KC K K') (th : Nat) {c : Nat} (hc : c < K 0 2) (P : Nat → Nat) : lrn K th c P = lrn K' th c P := by
  unfold lrn may
  rw [← grA_C h, ← h.2.2.1, ← h.2.2.2.2.2 c hc]
  rcases grA_or o th (P c) with e | e
  · rw [if_neg (fun q => q.1 e), if_neg (fun q => q.1 e)]
  · have := h.2.2.2.2.1 _ e
    rw [this.2.1, this.2.2]
theorem lrF_C (o : OKK K) (h : KC K K') (th : Nat) (P : Nat → Nat) : ∀ n, n ≤ K 0 2 → lrF K th P n = lrF K' th P n
  | 0, _ => rfl
  | n + 1, hn => by
    unfold lrF
    rw [lrF_C o h th P n (by omega), lrn_C o h th (by omega)]
theorem psn_C (o : OKK K) (h : KC K K') (w th : Nat) (P : Nat → Nat) : psn K w th P = psn K' w th P := by
  unfold psn ps2
  rw [← h.2.2.1, lrF_C o h th _ _ (Nat.le_refl _)]
theorem wyO_C (h : KC K K') (day : Nat) : wyO K day = wyO K' day := by
  unfold wyO
  rw [← h.1]
  by_cases z : K 0 0 = 0
  · rw [if_pos z, if_pos z]
  · rw [if_neg z, if_neg z]
    exact h.2.2.2.1 _ (Nat.mod_lt _ (by omega))
theorem pd_C (o : OKK K) (h : KC K K') (th : Nat) (P : Nat → Nat) : pd K th P = pd K' th P := by
  unfold pd
  rw [psn_C o h, wyO_C h]
theorem itr_C (o : OKK K) (h : KC K K') (th : Nat) (P : Nat → Nat) : ∀ n, itr K th P n = itr K' th P n
  | 0 => rfl
  | n + 1 => by
    rw [itr_s, itr_s, itr_C o h th P n, pd_C o h]
theorem flT_C (o : OKK K) (h : KC K K') (se : Nat) (P : Nat → Nat) : ∀ n, flT K se P n = flT K' se P n
  | 0 => rfl
  | n + 1 => by rw [flT_s, flT_s, flT_C o h se P n, psn_C o h, wyO_C h]
theorem soF_C (o : OKK K) (h : KC K K') (P : Nat → Nat) (c s v x n : Nat) : ∀ k, soF K P c s v x n k = soF K' P c s v x n k
  | 0 => rfl
  | k + 1 => by
    unfold soF
    rw [soF_C o h P c s v x n k, flT_C o h]
theorem wkC_C (h : KC K K') (f : Nat) : ∀ d, wkC K f d = wkC K' f d
  | 0 => rfl
  | d + 1 => by
    unfold wkC
    rw [wkC_C h f d, wyO_C h]
theorem wkN_C (o : OKK K) (h : KC K K') (s f : Nat) : ∀ d, wkN K s f d = wkN K' s f d
  | 0 => rfl
  | d + 1 => by
    unfold wkN
    rw [← wkC_C h, ← grA_C h, ← wkN_C o h s f d]
    rcases grA_or o 63 (wkC K f (d + 1)) with e | e
    · rw [if_neg (fun q => q.1 e), if_neg (fun q => q.1 e)]
    · have := h.2.2.2.2.1 _ e
      rw [this.2.1, this.2.2]
theorem bgF_C (o : OKK K) (h : KC K K') {kS kD kV kS' kD' kV' : Nat → Nat} {n : Nat} (e : ∀ k, k < n → kS k = kS' k ∧ kD k = kD' k ∧ kV k = kV' k) : ∀ c, bgF K kS kD kV n c = bgF K' kS' kD' kV' n c
  | 0 => rfl
  | c + 1 => by
    have hp : bgP K kS kD kV n c ↔ bgP K' kS' kD' kV' n c := by
      constructor
      · intro q k hk
        have := e k hk
        rw [← this.1, ← this.2.1, ← this.2.2, ← wkN_C o h]
        exact q k hk
      · intro q k hk
        have := e k hk
        rw [this.1, this.2.1, this.2.2, wkN_C o h]
        exact q k hk
    unfold bgF
    rw [bgF_C o h e c]
    by_cases z : bgP K kS kD kV n c
    · rw [if_pos z, if_pos (hp.mp z)]
    · rw [if_neg z, if_neg (fun q => z (hp.mpr q))]
variable {P P' : Nat → Nat}
theorem ah_eq (o : OKK K) (h : KC K K') (e : PEq (K 0 2) P P') (c s n : Nat) : ahG K P c s n = ahG K' P' c s n := by
  have o2 := o.2.2.1
  unfold ahG
  rw [← h.2.2.1, ← itr_C o h]
  by_cases c1 : c < K 0 2 ∧ s < 5
  · rw [if_pos c1, if_pos c1, (PEq_itr o e 63 n).2 _ (by omega) (by omega)]
  · rw [if_neg c1, if_neg c1]
theorem la_eq (o : OKK K) (h : KC K K') (e : PEq (K 0 2) P P') (c n w : Nat) : laG K P c n w = laG K' P' c n w := by
  have o2 := o.2.2.1
  unfold laG
  rw [← h.2.2.1, ← itr_C o h]
  by_cases c1 : c < K 0 2
  · rw [if_pos c1, if_pos c1, (PEq_itr o e 63 n).1 c c1, wtF_cong (PEq_itr o e 63 n) (by omega) 5 (by omega)]
  · rw [if_neg c1, if_neg c1]
theorem enF_cong {f f' : Nat → Nat} {v : Nat} (h : ∀ i, f i = f' i) (i n : Nat) : enF f v i n = enF f' v i n := by
  rw [show f = f' from funext h]
theorem en_eq (o : OKK K) (h : KC K K') (e : PEq (K 0 2) P P') (c s v : Nat) : enG K P c s v = enG K' P' c s v := by
  have o2 := o.2.2.1
  unfold enG
  rw [← h.2.2.1]
  by_cases c1 : c < K 0 2 ∧ s < 5
  · rw [if_pos c1, if_pos c1, enF_cong (f' := fun i => itr K' 63 P' i (6 + 5 * c + s)) (fun i => by rw [← itr_C o h]; exact (PEq_itr o e 63 i).2 _ (by omega) (by omega))]
  · rw [if_neg c1, if_neg c1]
theorem bsF_cong {f f' : Nat → Nat} (h : ∀ i, f i = f' i) (n : Nat) : bsF f n = bsF f' n := by
  rw [show f = f' from funext h]
theorem be_eq (o : OKK K) (h : KC K K') (e : PEq (K 0 2) P P') (c n w : Nat) : beG K P c n w = beG K' P' c n w := by
  have o2 := o.2.2.1
  unfold beG
  rw [← h.2.2.1]
  by_cases c1 : c < K 0 2
  · rw [if_pos c1, if_pos c1, bsF_cong (f' := bsW K' P' c n) (fun i => by
      unfold bsW
      rw [← itr_C o h]
      exact wtF_cong (PEq_itr o (e.up rfl) 63 n) (by omega) 5 (by omega))]
  · rw [if_neg c1, if_neg c1]
theorem juF_C (o : OKK K) (h : KC K K') (n r : Nat) : ∀ (f k : Nat) (T : Nat → Nat), juF K n r f k T = juF K' n r f k T
  | 0, _, _ => rfl
  | f + 1, k, T => by
    unfold juF
    have hb : ttB K T (fgr n r k / 1000) (fgr n r k / 100 % 10) (fgr n r k % 100) ↔ ttB K' T (fgr n r k / 1000) (fgr n r k / 100 % 10) (fgr n r k % 100) := by
      unfold ttB
      rw [← h.2.2.1]
    have ht : ttT K T (fgr n r k / 1000) (fgr n r k / 100 % 10) (fgr n r k % 100) = ttT K' T (fgr n r k / 1000) (fgr n r k / 100 % 10) (fgr n r k % 100) := by
      unfold ttT
      rw [← pd_C o h]
    by_cases z : ttB K T (fgr n r k / 1000) (fgr n r k / 100 % 10) (fgr n r k % 100)
    · rw [if_pos z, if_pos (hb.mp z), ht]
      exact juF_C o h n r f (k + 1) _
    · rw [if_neg z, if_neg (fun q => z (hb.mpr q))]
theorem ju_eq (o : OKK K) (h : KC K K') (e : PEq (K 0 2) P P') (n r : Nat) : juG K P n r = juG K' P' n r := by
  unfold juG
  rw [← juF_C o h, juF_cong o n r n 0 e]
theorem wbW_eq (o : OKK K) (h : KC K K') (e : PEq (K 0 2) P P') (th : Nat) {c : Nat} (hc : c < 5) : wbW K P th c = wbW K' P' th c := by
  unfold wbW
  rw [← itr_C o h]
  exact wtF_cong (PEq_itr o e th 6) hc 5 (by omega)
theorem shF_eq (o : OKK K) (h : KC K K') (e : PEq (K 0 2) P P') (g : Nat) {c : Nat} (hc : c < 5) : ∀ n, shF K P g c n = shF K' P' g c n
  | 0 => rfl
  | n + 1 => by
    unfold shF shT
    rw [shF_eq o h e g hc n, wbW_eq o h e _ hc, wbW_eq o h e _ hc, h.2.1]
theorem sh_eq (o : OKK K) (h : KC K K') (e : PEq (K 0 2) P P') (g c up : Nat) : shG2 K P g c up = shG2 K' P' g c up := by
  have o2 := o.2.2.1
  unfold shG2 shG
  rw [← h.2.1, ← h.2.2.1]
  by_cases c1 : g < K 0 1 ∧ c < K 0 2
  · rw [if_pos c1, if_pos c1, shF_eq o h e g (by omega)]
  · rw [if_neg c1, if_neg c1]
theorem gnW_eq (o : OKK K) (h : KC K K') (e : PEq (K 0 2) P P') {one other a b who : Nat} (ha : a < K 0 1) (hb : b < K 0 1) (hw : who < 5) : gnW K P one other a b who = gnW K' P' one other a b who := by
  unfold gnW
  rw [← itr_C o h, show gnP K' P' one other a b = gnP K P' one other a b by
    unfold gnP gn2
    rw [(h.2.2.2.2.1 a ha).1, (h.2.2.2.2.1 b hb).1]]
  exact wtF_cong (PEq_itr o (PEq_gnP e one other a b) 63 5) hw 5 (by omega)
theorem rsB_eq (o : OKK K) (h : KC K K') (e : PEq (K 0 2) P P') {one other a b n : Nat} (ha : a < K 0 1) (hb : b < K 0 1) (hn : n ≤ K 0 1) (h1 : one < 5) (h2 : other < 5) : rsB K P one other a b n ↔ rsB K' P' one other a b n := by
  constructor
  · intro q g hg
    rw [← gnW_eq o h e ha hb h1, ← gnW_eq o h e (show g < K 0 1 by omega) hb h1, ← gnW_eq o h e ha hb h2, ← gnW_eq o h e ha (show g < K 0 1 by omega) h2]
    exact q g hg
  · intro q g hg
    rw [gnW_eq o h e ha hb h1, gnW_eq o h e (show g < K 0 1 by omega) hb h1, gnW_eq o h e ha hb h2, gnW_eq o h e ha (show g < K 0 1 by omega) h2]
    exact q g hg
theorem rtF_eq (o : OKK K) (h : KC K K') (e : PEq (K 0 2) P P') {one other : Nat} (h1 : one < 5) (h2 : other < 5) : ∀ k, k ≤ K 0 1 * K 0 1 → rtF K P one other k = rtF K' P' one other k
  | 0, _ => rfl
  | k + 1, hk => by
    have hg0 : 0 < K 0 1 := by
      rcases Nat.eq_zero_or_pos (K 0 1) with z | z
      · rw [z] at hk; omega
      · exact z
    have hd : k / K 0 1 < K 0 1 := Nat.div_lt_of_lt_mul (by omega)
    have hm : k % K 0 1 < K 0 1 := Nat.mod_lt _ hg0
    rw [rtF_s, rtF_s, ← rtF_eq o h e h1 h2 k (by omega), ← h.2.1]
    have hb := rsB_eq o h e (one := one) (other := other) hd hm (Nat.le_refl _) h1 h2
    by_cases z : rsB K P one other (k / K 0 1) (k % K 0 1) (K 0 1)
    · rw [if_pos z, if_pos (hb.mp z)]
    · rw [if_neg z, if_neg (fun q => z (hb.mpr q))]
theorem re_eq (o : OKK K) (h : KC K K') (e : PEq (K 0 2) P P') (one other w : Nat) : reG K P one other w = reG K' P' one other w := by
  have o2 := o.2.2.1
  unfold reG
  rw [← h.2.1, ← h.2.2.1]
  by_cases c1 : one < K 0 2 ∧ other < K 0 2
  · rw [if_pos c1, if_pos c1, rtF_eq o h e (by omega) (by omega) _ (Nat.le_refl _)]
  · rw [if_neg c1, if_neg c1]
theorem soF_P (o : OKK K) (e : PEq (K 0 2) P P') {c s v x n : Nat} (hc : c < 5) (hs : s < 5) : ∀ k, soF K P c s v x n k = soF K P' c s v x n k
  | 0 => rfl
  | k + 1 => by
    unfold soF
    rw [soF_P o e hc hs k, (PEq_flT o e k n).2 _ (by omega) (by omega)]
theorem fl_eq (o : OKK K) (h : KC K K') (e : PEq (K 0 2) P P') (c s v n x up : Nat) : flG K P c s v n x up = flG K' P' c s v n x up := by
  have o2 := o.2.2.1
  unfold flG
  rw [← h.2.2.1, ← soF_C o h]
  by_cases c1 : c < K 0 2 ∧ s < 5
  · rw [if_pos c1, if_pos c1, soF_P o e (by omega) (by omega)]
  · rw [if_neg c1, if_neg c1]
theorem gnT_C (o : OKK K) (h : KC K K') (T : Nat → Nat) (v : Nat) : gnT K T v = gnT K' T v := by
  unfold gnT
  rw [← pd_C o h, ← h.2.2.1]
theorem geT_C (o : OKK K) (h : KC K K') (s : Nat) (P : Nat → Nat) : ∀ k, geT K s P k = geT K' s P k
  | 0 => rfl
  | k + 1 => by
    unfold geT
    rw [geT_C o h s P k, gnT_C o h]
end KCS
/-- children who are not told know nothing -/
def ZC (n : Nat) (P : Nat → Nat) : Prop := ∀ i, 6 + 5 * n ≤ i → i < 31 → P i = 0
theorem ZC_fup {n : Nat} {P : Nat → Nat} (h : ZC n P) {i x : Nat} (hi : i < 6 + 5 * n ∨ 31 ≤ i) : ZC n (fup P i x) := fun j h1 h2 => by rw [fup_o (by omega)]; exact h j h1 h2
theorem ZC_dri {N : Nat} {P : Nat → Nat} (h : ZC N P) (w : Nat) : ∀ {n : Nat}, n ≤ 5 → ZC N (dri w P n)
  | 0, _ => h
  | n + 1, hn => by rw [dri_s]; exact ZC_fup (ZC_dri h w (by omega)) (by omega)
theorem ZC_lrn {K : St} (o : OKK K) {P : Nat → Nat} (h : ZC (K 0 2) P) {th c : Nat} (hc : c < K 0 2) : ZC (K 0 2) (lrn K th c P) := by
  unfold lrn
  split
  · rename_i q
    have hl : grA K th (P c) < K 0 1 := by
      rcases grA_or o th (P c) with e | e
      · exact absurd e q.1
      · exact e
    have h3 := (o.2.2.2.2.1 _ hl).2.1
    exact ZC_fup h (by omega)
  · exact h
theorem ZC_lrF {K : St} (o : OKK K) {P : Nat → Nat} (h : ZC (K 0 2) P) (th : Nat) : ∀ {n : Nat}, n ≤ K 0 2 → ZC (K 0 2) (lrF K th P n)
  | 0, _ => h
  | n + 1, hn => by rw [lrF_s]; exact ZC_lrn o (ZC_lrF o h th (by omega)) (by omega)
theorem ZC_psn {K : St} (o : OKK K) {P : Nat → Nat} (h : ZC (K 0 2) P) (w th : Nat) : ZC (K 0 2) (psn K w th P) := ZC_fup (ZC_lrF o (ZC_dri h w o.2.2.1) th (Nat.le_refl _)) (by omega)
theorem ZC_itr {K : St} (o : OKK K) {P : Nat → Nat} (h : ZC (K 0 2) P) (th : Nat) : ∀ n, ZC (K 0 2) (itr K th P n)
  | 0 => h
  | n + 1 => by rw [itr_s]; exact ZC_psn o (ZC_itr o h th n) _ _
theorem ZC_unl {N : Nat} {P : Nat → Nat} (h : ZC N P) (c : Nat) : ∀ n, ZC N (unl P c n)
  | 0 => h
  | n + 1 => fun i h1 h2 => by
    rw [unl_s]
    by_cases q : i = 6 + 5 * c + n
    · rw [q, fup_s]
    · rw [fup_o q]; exact ZC_unl h c n i h1 h2
theorem wtF_Z {N c : Nat} {P : Nat → Nat} (h : ZC N P) (hc : N ≤ c) (h5 : c < 5) : ∀ n, n ≤ 5 → wtF P c n = 0
  | 0, _ => rfl
  | n + 1, hn => by
    unfold wtF
    rw [wtF_Z h hc h5 n (by omega), h _ (by omega) (by omega)]
theorem wtS_Z {N : Nat} {P : Nat → Nat} (h : ZC N P) : ∀ k, N + k ≤ 5 → wtS P (N + k) = wtS P N
  | 0, _ => rfl
  | k + 1, hk => by
    rw [← Nat.add_assoc, wtS, wtS_Z h k (by omega), wtF_Z h (by omega) (by omega) 5 (by omega), Nat.add_zero]
theorem wtS_5 {N : Nat} {P : Nat → Nat} (h : ZC N P) (hN : N ≤ 5) : wtS P 5 = wtS P N := by
  have := wtS_Z h (5 - N) (by omega)
  rw [show N + (5 - N) = 5 by omega] at this
  exact this
theorem ZC_gnT {K : St} (o : OKK K) {T : Nat → Nat} (h : ZC (K 0 2) T) (v : Nat) : ZC (K 0 2) (gnT K T v) := by
  unfold gnT
  split
  · exact ZC_psn o h _ _
  · split
    · split
      · exact ZC_unl h _ _
      · exact h
    · split
      · exact ZC_fup h (by omega)
      · exact h
theorem ZC_geT {K : St} (o : OKK K) {P : Nat → Nat} (h : ZC (K 0 2) P) (s : Nat) : ∀ k, ZC (K 0 2) (geT K s P k)
  | 0 => h
  | k + 1 => ZC_gnT o (ZC_geT o h s k) _
theorem ge5_eq {K K' : St} {P P' : Nat → Nat} (o : OKK K) (h : KC K K') (e : PEq (K 0 2) P P') (z : ZC (K 0 2) P) (s : Nat) : ∀ k, ge5 K s P k = geS K' s P' k
  | 0 => rfl
  | k + 1 => by
    rw [ge5, geS, ge5_eq o h e z s k, wtS_5 (ZC_geT o z s (k + 1)) o.2.2.1, ← geT_C o h, ← h.2.2.1, wtS_cong (PEq_geT o e s (k + 1)) _ o.2.2.1]
/-! FIT: the greatest of a row of values, if there is one -/
def IsMx (S : Nat → Prop) (m : Nat) : Prop := (m = 4294967287 ∧ ∀ v, ¬ S v) ∨ (m ≤ 225 ∧ S m ∧ ∀ v, S v → v ≤ m)
theorem IsMx.uniq {S S' : Nat → Prop} {m m' : Nat} (h : IsMx S m) (h' : IsMx S' m') (e : ∀ v, S v ↔ S' v) : m = m' := by
  rcases h with ⟨h1, h2⟩ | ⟨h1, h2, h3⟩ <;> rcases h' with ⟨k1, k2⟩ | ⟨k1, k2, k3⟩
  · rw [h1, k1]
  · exact absurd ((e _).mpr k2) (h2 _)
  · exact absurd ((e _).mp h2) (k2 _)
  · exact Nat.le_antisymm (k3 _ ((e _).mp h2)) (h3 _ ((e _).mpr k2))
theorem IsMx.iff {S S' : Nat → Prop} {m : Nat} (h : IsMx S m) (e : ∀ v, S v ↔ S' v) : IsMx S' m := by
  rcases h with ⟨h1, h2⟩ | ⟨h1, h2, h3⟩
  · exact Or.inl ⟨h1, fun v q => h2 v ((e v).mpr q)⟩
  · exact Or.inr ⟨h1, (e _).mp h2, fun v q => h3 v ((e v).mpr q)⟩
theorem IsMx.mx {S S' : Nat → Prop} {m m' : Nat} (h : IsMx S m) (h' : IsMx S' m') : IsMx (fun v => S v ∨ S' v) (mxN m m') := by
  unfold mxN
  rcases h with ⟨h1, h2⟩ | ⟨h1, h2, h3⟩
  · rw [if_pos h1]
    exact h'.iff (fun v => ⟨Or.inr, fun q => q.resolve_left (h2 v)⟩)
  · rw [if_neg (by omega)]
    rcases h' with ⟨k1, k2⟩ | ⟨k1, k2, k3⟩
    · rw [if_pos k1]
      exact Or.inr ⟨h1, Or.inl h2, fun v q => h3 v (q.resolve_right (k2 v))⟩
    · rw [if_neg (by omega)]
      by_cases q : m < m'
      · rw [if_pos q]
        exact Or.inr ⟨k1, Or.inr k2, fun v z => z.elim (fun z => by have := h3 v z; omega) (k3 v)⟩
      · rw [if_neg q]
        exact Or.inr ⟨h1, Or.inl h2, fun v z => z.elim (h3 v) (fun z => by have := k3 v z; omega)⟩
theorem mfL_mx {f : Nat → Nat} {used : Nat} {S : Nat → Nat → Prop} : ∀ n, (∀ g, g < n → used.testBit g = false → IsMx (S g) (f g)) → IsMx (fun v => ∃ g, g < n ∧ used.testBit g = false ∧ S g v) (mfL f used n)
  | 0, _ => Or.inl ⟨rfl, fun v ⟨g, h, _⟩ => absurd h (by omega)⟩
  | n + 1, h => by
    have ih := mfL_mx (S := S) n (fun g hg => h g (by omega))
    unfold mfL
    by_cases b : used.testBit n = true
    · rw [if_pos b]
      refine ih.iff (fun v => ⟨fun ⟨g, h1, h2⟩ => ⟨g, by omega, h2⟩, fun ⟨g, h1, h2, h3⟩ => ?_⟩)
      rcases (show g < n ∨ g = n by omega) with q | q
      · exact ⟨g, q, h2, h3⟩
      · subst q; rw [b] at h2; cases h2
    · rw [if_neg b]
      refine (ih.mx (h n (by omega) (Bool.eq_false_iff.mpr b))).iff (fun v => ⟨?_, fun ⟨g, h1, h2, h3⟩ => ?_⟩)
      · rintro (⟨g, h1, h2⟩ | h1)
        · exact ⟨g, by omega, h2⟩
        · exact ⟨n, by omega, Bool.eq_false_iff.mpr b, h1⟩
      · rcases (show g < n ∨ g = n by omega) with q | q
        · exact Or.inl ⟨g, q, h2, h3⟩
        · subst q; exact Or.inr h3
def VA (K : St) (n c used : Nat) (f : Nat → Nat) : Prop := ∀ j, c ≤ j → j < c + n → f j < K 0 1 ∧ used.testBit (f j) = false ∧ ∀ i, c ≤ i → i < j → f i ≠ f j
def stB (K : St) (f P : Nat → Nat) (c n : Nat) : Nat → Nat := fun j => if c ≤ j ∧ j < c + n then K 2 (f j) else P j
theorem stA_at (K : St) (f P : Nat → Nat) (j : Nat) : ∀ n, stA K f P n j = if j < n then K 2 (f j) else P j
  | 0 => by rw [if_neg (by omega)]; rfl
  | n + 1 => by
    rw [stA_s]
    by_cases q : j = n
    · rw [q, fup_s, if_pos (by omega)]
    · rw [fup_o q, stA_at K f P j n]
      by_cases z : j < n
      · rw [if_pos z, if_pos (by omega)]
      · rw [if_neg z, if_neg (by omega)]
theorem or_bit {used g k : Nat} : (used ||| 1 * 2 ^ g).testBit k = false ↔ used.testBit k = false ∧ g ≠ k := by
  rw [Nat.testBit_or, Bool.or_eq_false_iff, Nat.one_mul, Nat.testBit_two_pow, decide_eq_false_iff_not]
theorem OKP_stB {K : St} {f P : Nat → Nat} (h : OKP P) {c n : Nat} (hn : c + n ≤ 5) (hf : ∀ j, c ≤ j → j < c + n → K 2 (f j) < 12) : OKP (stB K f P c n) := by
  unfold stB
  refine ⟨fun i hi => ?_, ?_, fun i hi => ?_⟩
  · dsimp only
    split
    · rename_i q; exact hf i q.1 q.2
    · exact h.1 i hi
  · dsimp only
    rw [if_neg (by omega)]; exact h.2.1
  · dsimp only
    rw [if_neg (by omega)]; exact h.2.2 i hi
theorem mf_mx {K : St} (o : OKK K) : ∀ (n c used : Nat) (P : Nat → Nat), c + n ≤ 5 → OKP P → IsMx (fun v => ∃ f, VA K n c used f ∧ v = wtS (itr K 63 (stB K f P c n) 4) 5) (mf K n c used P)
  | 0, c, used, P, hc, hp => by
    have e : ∀ f, stB K f P c 0 = P := fun f => by
      funext j
      unfold stB
      rw [if_neg (by omega)]
    refine Or.inr ⟨?_, ⟨fun _ => 0, fun j h1 h2 => absurd h2 (by omega), by rw [e]; rfl⟩, fun v ⟨f, _, hv⟩ => ?_⟩
    · have := wtS_le (OKP_itr o hp 63 4) 5 (by omega)
      unfold mf; omega
    · rw [hv, e]; exact Nat.le_refl _
  | n + 1, c, used, P, hc, hp => by
    have h := mfL_mx (f := fun g => mf K n (c + 1) (used ||| 1 * 2 ^ g) (fup P c (K 2 g))) (used := used) (K 0 1) (fun g hg _ => mf_mx o n (c + 1) (used ||| 1 * 2 ^ g) (fup P c (K 2 g)) (by omega) (OKP_fup hp (fun _ => (o.2.2.2.2.1 g hg).1) (by omega) (by omega)))
    unfold mf
    refine h.iff (fun v => ⟨?_, ?_⟩)
    · rintro ⟨g, h1, h2, f, h3, rfl⟩
      refine ⟨fun j => if j = c then g else f j, fun j q1 q2 => ?_, ?_⟩
      · dsimp only
        by_cases z : j = c
        · rw [if_pos z]
          exact ⟨h1, h2, fun i q3 q4 => absurd q4 (by omega)⟩
        · rw [if_neg z]
          obtain ⟨a1, a2, a3⟩ := h3 j (by omega) (by omega)
          have a4 := or_bit.mp a2
          refine ⟨a1, a4.1, fun i q3 q4 => ?_⟩
          by_cases y : i = c
          · rw [if_pos y]; exact a4.2
          · rw [if_neg y]; exact a3 i (by omega) q4
      · congr 2
        funext j
        unfold stB
        dsimp only
        by_cases z : j = c
        · rw [if_neg (by omega), if_pos (by omega), if_pos z, z, fup_s]
        · rw [if_neg z, fup_o z]
          by_cases y : c + 1 ≤ j ∧ j < c + 1 + n
          · rw [if_pos y, if_pos (by omega)]
          · rw [if_neg y, if_neg (by omega)]
    · rintro ⟨f, h3, rfl⟩
      obtain ⟨a1, a2, a3⟩ := h3 c (by omega) (by omega)
      refine ⟨f c, a1, a2, f, fun j q1 q2 => ?_, ?_⟩
      · obtain ⟨b1, b2, b3⟩ := h3 j (by omega) (by omega)
        exact ⟨b1, or_bit.mpr ⟨b2, b3 c (by omega) (by omega)⟩, fun i q3 q4 => b3 i (by omega) q4⟩
      · congr 2
        funext j
        unfold stB
        by_cases z : j = c
        · rw [if_pos (by omega), if_neg (by omega), z, fup_s]
        · rw [fup_o z]
          by_cases y : c + 1 ≤ j ∧ j < c + 1 + n
          · rw [if_pos y, if_pos (by omega)]
          · rw [if_neg y, if_neg (by omega)]
theorem fiF_mx {K : St} {P : Nat → Nat} : ∀ n, (∀ way, way < n → okW K way → fiW K P way ≤ 225) → IsMx (fun v => ∃ way, way < n ∧ okW K way ∧ v = fiW K P way) (fiF K P n)
  | 0, _ => Or.inl ⟨rfl, fun v ⟨w, h, _⟩ => absurd h (by omega)⟩
  | n + 1, h => by
    have ih := fiF_mx n (fun w hw => h w (by omega))
    rw [fiF_s]
    by_cases hk : okW K n
    · have hv := h n (by omega) hk
      have key := (ih.mx (Or.inr ⟨hv, rfl, fun v (q : v = fiW K P n) => by omega⟩ : IsMx (fun v => v = fiW K P n) (fiW K P n)))
      have e : (if okW K n ∧ (fiF K P n = 4294967287 ∨ fiF K P n < fiW K P n) then fiW K P n else fiF K P n) = mxN (fiF K P n) (fiW K P n) := by
        unfold mxN
        by_cases q : fiF K P n = 4294967287
        · rw [if_pos ⟨hk, Or.inl q⟩, if_pos q]
        · rw [if_neg q, if_neg (show ¬ fiW K P n = 4294967287 by omega)]
          by_cases z : fiF K P n < fiW K P n
          · rw [if_pos ⟨hk, Or.inr z⟩, if_pos z]
          · rw [if_neg (fun y => z (y.2.resolve_left q)), if_neg z]
      rw [e]
      refine key.iff (fun v => ⟨?_, fun ⟨w, h1, h2, h3⟩ => ?_⟩)
      · rintro (⟨w, h1, h2⟩ | h1)
        · exact ⟨w, by omega, h2⟩
        · exact ⟨n, by omega, hk, h1⟩
      · rcases (show w < n ∨ w = n by omega) with q | q
        · exact Or.inl ⟨w, q, h2, h3⟩
        · subst q; exact Or.inr h3
    · rw [if_neg (fun q => hk q.1)]
      refine ih.iff (fun v => ⟨fun ⟨w, h1, h2⟩ => ⟨w, by omega, h2⟩, fun ⟨w, h1, h2, h3⟩ => ?_⟩)
      rcases (show w < n ∨ w = n by omega) with q | q
      · exact ⟨w, q, h2, h3⟩
      · subst q; exact absurd h2 hk
def enc (G : Nat) (f : Nat → Nat) : Nat → Nat → Nat
  | _, 0 => 0
  | c, n + 1 => f c + G * enc G f (c + 1) n
theorem enc_lt {G : Nat} {f : Nat → Nat} : ∀ (n c : Nat), (∀ j, c ≤ j → j < c + n → f j < G) → enc G f c n < G ^ n
  | 0, _, _ => by unfold enc; rw [Nat.pow_zero]; decide
  | n + 1, c, h => by
    have h1 := h c (by omega) (by omega)
    have h2 := enc_lt n (c + 1) (fun j q1 q2 => h j (by omega) (by omega))
    unfold enc
    have h3 : G * (enc G f (c + 1) n + 1) ≤ G * G ^ n := Nat.mul_le_mul_left G h2
    rw [Nat.mul_add] at h3
    rw [Nat.pow_succ, Nat.mul_comm (G ^ n) G]
    omega
theorem enc_dg {G : Nat} {f : Nat → Nat} : ∀ (n c : Nat), (∀ j, c ≤ j → j < c + n → f j < G) → ∀ i, i < n → enc G f c n / G ^ i % G = f (c + i)
  | 0, _, _, i, hi => absurd hi (by omega)
  | n + 1, c, h, 0, _ => by
    have h1 := h c (by omega) (by omega)
    unfold enc
    rw [Nat.pow_zero, Nat.div_one, Nat.add_mul_mod_self_left, Nat.mod_eq_of_lt h1, Nat.add_zero]
  | n + 1, c, h, i + 1, hi => by
    have h1 := h c (by omega) (by omega)
    have ih := enc_dg n (c + 1) (fun j q1 q2 => h j (by omega) (by omega)) i (by omega)
    unfold enc
    rw [Nat.pow_succ, Nat.mul_comm (G ^ i) G, ← Nat.div_div_eq_div_mul, Nat.add_mul_div_left _ _ (by omega), Nat.div_eq_of_lt h1, Nat.zero_add, ih, show c + 1 + i = c + (i + 1) by omega]
theorem okW_iff {K : St} {way : Nat} : okW K way ↔ ∀ c, c < K 0 2 → ∀ i, i < c → dgt K way i ≠ dgt K way c := by
  constructor
  · intro h c hc i hi q
    have := h c hc
    rw [cbF_bit.mpr ⟨i, hi, q⟩] at this
    cases this
  · intro h c hc
    rw [Bool.eq_false_iff]
    intro q
    obtain ⟨i, hi, e⟩ := cbF_bit.mp q
    exact h c hc i hi e
theorem ZC_stB {K : St} {f P : Nat → Nat} {N c n : Nat} (h : ZC N P) (hn : c + n ≤ 5) : ZC N (stB K f P c n) := fun i h1 h2 => by
  unfold stB
  rw [if_neg (by omega)]
  exact h i h1 h2
theorem stA_B (K : St) (f P : Nat → Nat) (n : Nat) : stA K f P n = stB K f P 0 n := by
  funext j
  rw [stA_at]
  unfold stB
  by_cases q : j < n
  · rw [if_pos q, if_pos (by omega)]
  · rw [if_neg q, if_neg (by omega)]
theorem fi_same {K : St} {P : Nat → Nat} (o : OKK K) (hp : OKP P) (z : ZC (K 0 2) P) : fiG K P = fiF K P (fiN K) := by
  have o2 := o.2.2.1
  unfold fiG
  by_cases q : K 0 1 < K 0 2
  · rw [if_pos q, show fiN K = 0 by unfold fiN; rw [if_pos q]]
    rfl
  · rw [if_neg q, show fiN K = K 0 1 ^ K 0 2 by
      unfold fiN
      rw [if_neg q]
      split
      · rename_i h0; rw [h0, Nat.pow_zero]
      · rfl]
    have dl : ∀ way j, j < K 0 2 → dgt K way j < K 0 1 := fun way j hj => Nat.mod_lt _ (by omega)
    have w5 : ∀ f, wtS (itr K 63 (stB K f P 0 (K 0 2)) 4) 5 = wtS (itr K 63 (stB K f P 0 (K 0 2)) 4) (K 0 2) := fun f => wtS_5 (ZC_itr o (ZC_stB z (by omega)) 63 4) o2
    refine (mf_mx o (K 0 2) 0 0 P (by omega) hp).uniq (fiF_mx (K := K) (P := P) (K 0 1 ^ K 0 2) (fun way hw hk => ?_)) (fun v => ⟨?_, ?_⟩)
    · unfold fiW
      rw [stA_B, ← w5]
      have := wtS_le (OKP_itr o (OKP_stB (K := K) (f := dgt K way) hp (c := 0) (n := K 0 2) (by omega) (fun j _ hj => (o.2.2.2.2.1 _ (dl way j (by omega))).1)) 63 4) 5 (by omega)
      omega
    · rintro ⟨f, h1, rfl⟩
      have hf : ∀ j, 0 ≤ j → j < 0 + K 0 2 → f j < K 0 1 := fun j a b => (h1 j a b).1
      have hd : ∀ j, j < K 0 2 → dgt K (enc (K 0 1) f 0 (K 0 2)) j = f j := fun j hj => by
        have := enc_dg (K 0 2) 0 hf j hj
        rw [Nat.zero_add] at this
        exact this
      refine ⟨enc (K 0 1) f 0 (K 0 2), enc_lt (K 0 2) 0 hf, okW_iff.mpr (fun c hc i hi => ?_), ?_⟩
      · rw [hd c hc, hd i (by omega)]
        exact (h1 c (by omega) (by omega)).2.2 i (by omega) hi
      · unfold fiW
        rw [stA_B, w5]
        congr 2
        funext j
        unfold stB
        by_cases y : 0 ≤ j ∧ j < 0 + K 0 2
        · rw [if_pos y, if_pos y, hd j (by omega)]
        · rw [if_neg y, if_neg y]
    · rintro ⟨way, h1, h2, rfl⟩
      refine ⟨dgt K way, fun j _ hj => ⟨dl way j (by omega), Nat.zero_testBit _, fun i _ hi => okW_iff.mp h2 j (by omega) i hi⟩, ?_⟩
      unfold fiW
      rw [stA_B, w5]
theorem fiW_C {K K' : St} (o : OKK K) (h : KC K K') (hg : 0 < K 0 1 ∨ K 0 2 = 0) (P : Nat → Nat) (way : Nat) : fiW K P way = fiW K' P way := by
  unfold fiW
  rw [← itr_C o h, ← h.2.2.1]
  congr 2
  funext j
  rw [stA_at, stA_at]
  by_cases y : j < K 0 2
  · rw [if_pos y, if_pos y, show dgt K' way j = dgt K way j by unfold dgt; rw [← h.2.1]]
    exact (h.2.2.2.2.1 _ (Nat.mod_lt _ (by omega))).1
  · rw [if_neg y, if_neg y]
theorem fiF_C {K K' : St} (o : OKK K) (h : KC K K') (hg : 0 < K 0 1 ∨ K 0 2 = 0) (P : Nat → Nat) : ∀ n, fiF K P n = fiF K' P n
  | 0 => rfl
  | n + 1 => by
    rw [fiF_s, fiF_s, fiF_C o h hg P n, fiW_C o h hg P n]
    have hk : okW K n ↔ okW K' n := by
      rw [okW_iff, okW_iff, ← h.2.2.1]
      unfold dgt
      rw [← h.2.1]
    by_cases q : okW K n ∧ (fiF K' P n = 4294967287 ∨ fiF K' P n < fiW K' P n)
    · rw [if_pos q, if_pos ⟨hk.mp q.1, q.2⟩]
    · rw [if_neg q, if_neg (fun z => q ⟨hk.mpr z.1, z.2⟩)]
theorem fiF_P {K : St} (o : OKK K) {P P' : Nat → Nat} (e : PEq (K 0 2) P P') : ∀ n, fiF K P n = fiF K P' n
  | 0 => rfl
  | n + 1 => by
    rw [fiF_s, fiF_s, fiF_P o e n, show fiW K P n = fiW K P' n from wtS_cong (PEq_itr o (PEq_stA e _) 63 4) _ o.2.2.1]
theorem fi_eq {K K' : St} {P P' : Nat → Nat} (o : OKK K) (h : KC K K') (e : PEq (K 0 2) P P') (hp : OKP P) (z : ZC (K 0 2) P) : fiG K P = fiF K' P' (fiN K') := by
  rw [fi_same o hp z, fiF_P o e, show fiN K = fiN K' by unfold fiN; rw [h.2.1, h.2.2.1]]
  by_cases hg : 0 < K 0 1 ∨ K 0 2 = 0
  · exact fiF_C o h hg P' _
  · rw [show fiN K' = 0 by unfold fiN; rw [← h.2.1, ← h.2.2.1, if_pos (by omega)]]
    rfl
