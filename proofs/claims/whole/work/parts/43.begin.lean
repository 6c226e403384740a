/-! THE BEGINNING -/
def ordL : List Nat := [85, 86, 87, 88, 89, 90, 91, 92, 93, 94, 95, 96, 97, 98, 99, 100, 101, 0, 1, 76, 77, 78, 71, 27, 28, 72, 73, 74, 75, 2, 3, 4, 5, 6, 7, 8, 9, 10, 11, 12, 13, 14, 15, 16, 17, 18, 19, 20, 21, 22, 23, 24, 25, 26, 79, 80, 81, 82, 83, 84, 29, 30, 31, 32, 33, 34, 35, 36, 37, 38, 39, 40, 41, 42, 43, 44, 45, 46, 47, 48, 49, 50, 51, 52, 53, 54, 55, 56, 57, 58, 59, 60, 61, 62, 63, 64, 65, 66, 67, 68, 69, 70]
def ord (k : Nat) : Nat := ordL.getD k 0
def B0 (Z : Zk) (b : Nat) : Bk := (fun k => b + ord k, fun k => if k = 15 then Z.2.2.1 else if k = 22 then Z.2.2.2 else if k = 24 then Z.2.2.2 else Z.2.1, Z.1)
def s0 : St := fun k i => if k = 0 then (if i = 20 then 63 else 0) else if k = 17 then (if i = 2 then 29 else if i = 3 then 37 else 0) else 0
def kAl (Z : Zk) (b : Nat) : List va_E := kX4 Z b ++ kX5 Z (b + 85)
theorem ord_inj : ∀ i, i < 102 → ∀ j, j < 102 → ord i = ord j → i = j := by decide +kernel
theorem B0_BI (Z : Zk) (b : Nat) : BI (B0 Z b) := fun i j hi hj h => ord_inj i hi j hj (Nat.add_left_cancel (n := b) h)
theorem arrV_cong {cA : ClassId} {n : Nat} {f g : Nat → Value} (h : ∀ j, j < n → f j = g j) : arrV cA n f = arrV cA n g := by
  unfold arrV
  congr 2
  funext j
  exact h j.val j.isLt
theorem or_0 : ord 0 = 85 := by decide +kernel
theorem or_1 : ord 1 = 86 := by decide +kernel
theorem or_2 : ord 2 = 87 := by decide +kernel
theorem or_3 : ord 3 = 88 := by decide +kernel
theorem or_4 : ord 4 = 89 := by decide +kernel
theorem or_5 : ord 5 = 90 := by decide +kernel
theorem or_6 : ord 6 = 91 := by decide +kernel
theorem or_7 : ord 7 = 92 := by decide +kernel
theorem or_8 : ord 8 = 93 := by decide +kernel
theorem or_9 : ord 9 = 94 := by decide +kernel
theorem or_10 : ord 10 = 95 := by decide +kernel
theorem or_11 : ord 11 = 96 := by decide +kernel
theorem or_12 : ord 12 = 97 := by decide +kernel
theorem or_13 : ord 13 = 98 := by decide +kernel
theorem or_14 : ord 14 = 99 := by decide +kernel
theorem or_15 : ord 15 = 100 := by decide +kernel
theorem or_16 : ord 16 = 101 := by decide +kernel
theorem or_17 : ord 17 = 0 := by decide +kernel
theorem or_18 : ord 18 = 1 := by decide +kernel
theorem or_19 : ord 19 = 76 := by decide +kernel
theorem or_20 : ord 20 = 77 := by decide +kernel
theorem or_21 : ord 21 = 78 := by decide +kernel
theorem or_22 : ord 22 = 71 := by decide +kernel
theorem or_23 : ord 23 = 27 := by decide +kernel
theorem or_24 : ord 24 = 28 := by decide +kernel
theorem or_25 : ord 25 = 72 := by decide +kernel
theorem or_26 : ord 26 = 73 := by decide +kernel
theorem or_27 : ord 27 = 74 := by decide +kernel
theorem or_28 : ord 28 = 75 := by decide +kernel
theorem or_29 : ord 29 = 2 := by decide +kernel
theorem or_30 : ord 30 = 3 := by decide +kernel
theorem or_31 : ord 31 = 4 := by decide +kernel
theorem or_32 : ord 32 = 5 := by decide +kernel
theorem or_33 : ord 33 = 6 := by decide +kernel
theorem or_34 : ord 34 = 7 := by decide +kernel
theorem or_35 : ord 35 = 8 := by decide +kernel
theorem or_36 : ord 36 = 9 := by decide +kernel
theorem or_37 : ord 37 = 10 := by decide +kernel
theorem or_38 : ord 38 = 11 := by decide +kernel
theorem or_39 : ord 39 = 12 := by decide +kernel
theorem or_40 : ord 40 = 13 := by decide +kernel
theorem or_41 : ord 41 = 14 := by decide +kernel
theorem or_42 : ord 42 = 15 := by decide +kernel
theorem or_43 : ord 43 = 16 := by decide +kernel
theorem or_44 : ord 44 = 17 := by decide +kernel
theorem or_45 : ord 45 = 18 := by decide +kernel
theorem or_46 : ord 46 = 19 := by decide +kernel
theorem or_47 : ord 47 = 20 := by decide +kernel
theorem or_48 : ord 48 = 21 := by decide +kernel
theorem or_49 : ord 49 = 22 := by decide +kernel
theorem or_50 : ord 50 = 23 := by decide +kernel
theorem or_51 : ord 51 = 24 := by decide +kernel
theorem or_52 : ord 52 = 25 := by decide +kernel
theorem or_53 : ord 53 = 26 := by decide +kernel
theorem or_54 : ord 54 = 79 := by decide +kernel
theorem or_55 : ord 55 = 80 := by decide +kernel
theorem or_56 : ord 56 = 81 := by decide +kernel
theorem or_57 : ord 57 = 82 := by decide +kernel
theorem or_58 : ord 58 = 83 := by decide +kernel
theorem or_59 : ord 59 = 84 := by decide +kernel
theorem or_60 : ord 60 = 29 := by decide +kernel
theorem or_61 : ord 61 = 30 := by decide +kernel
theorem or_62 : ord 62 = 31 := by decide +kernel
theorem or_63 : ord 63 = 32 := by decide +kernel
theorem or_64 : ord 64 = 33 := by decide +kernel
theorem or_65 : ord 65 = 34 := by decide +kernel
theorem or_66 : ord 66 = 35 := by decide +kernel
theorem or_67 : ord 67 = 36 := by decide +kernel
theorem or_68 : ord 68 = 37 := by decide +kernel
theorem or_69 : ord 69 = 38 := by decide +kernel
theorem or_70 : ord 70 = 39 := by decide +kernel
theorem or_71 : ord 71 = 40 := by decide +kernel
theorem or_72 : ord 72 = 41 := by decide +kernel
theorem or_73 : ord 73 = 42 := by decide +kernel
theorem or_74 : ord 74 = 43 := by decide +kernel
theorem or_75 : ord 75 = 44 := by decide +kernel
theorem or_76 : ord 76 = 45 := by decide +kernel
theorem or_77 : ord 77 = 46 := by decide +kernel
theorem or_78 : ord 78 = 47 := by decide +kernel
theorem or_79 : ord 79 = 48 := by decide +kernel
theorem or_80 : ord 80 = 49 := by decide +kernel
theorem or_81 : ord 81 = 50 := by decide +kernel
theorem or_82 : ord 82 = 51 := by decide +kernel
theorem or_83 : ord 83 = 52 := by decide +kernel
theorem or_84 : ord 84 = 53 := by decide +kernel
theorem or_85 : ord 85 = 54 := by decide +kernel
theorem or_86 : ord 86 = 55 := by decide +kernel
theorem or_87 : ord 87 = 56 := by decide +kernel
theorem or_88 : ord 88 = 57 := by decide +kernel
theorem or_89 : ord 89 = 58 := by decide +kernel
theorem or_90 : ord 90 = 59 := by decide +kernel
theorem or_91 : ord 91 = 60 := by decide +kernel
theorem or_92 : ord 92 = 61 := by decide +kernel
theorem or_93 : ord 93 = 62 := by decide +kernel
theorem or_94 : ord 94 = 63 := by decide +kernel
theorem or_95 : ord 95 = 64 := by decide +kernel
theorem or_96 : ord 96 = 65 := by decide +kernel
theorem or_97 : ord 97 = 66 := by decide +kernel
theorem or_98 : ord 98 = 67 := by decide +kernel
theorem or_99 : ord 99 = 68 := by decide +kernel
theorem or_100 : ord 100 = 69 := by decide +kernel
theorem or_101 : ord 101 = 70 := by decide +kernel
theorem l_X0 (Z : Zk) (b : Nat) : (kX0 Z b).length = 8 := rfl
theorem l_X1 (Z : Zk) (b : Nat) : (kX1 Z b).length = 4 := rfl
theorem l_X2 (Z : Zk) (b : Nat) : (kX2 Z b).length = 44 := kX2i_len Z b 14
theorem l_X3 (Z : Zk) (b : Nat) : (kX3 Z b).length = 3 := rfl
theorem l_X5 (Z : Zk) (b : Nat) : (kX5 Z b).length = 17 := rfl
theorem l_X4 (Z : Zk) (b : Nat) : (kX4 Z b).length = 85 := by
  unfold kX4
  simp only [List.length_append, List.length_cons, List.length_nil, l_X0, l_X1, l_X2, l_X3]
theorem s0_o {k : Nat} (h0 : k ≠ 0) (h17 : k ≠ 17) : s0 k = fun _ => 0 := by
  funext i
  simp [s0, h0, h17]
section ZZ
variable {Z : Zk} {b : Nat} {H : Heap}
theorem cl_o {k : Nat} (h15 : k ≠ 15) (h22 : k ≠ 22) (h24 : k ≠ 24) : (B0 Z b).2.1 k = Z.2.1 := by simp [B0, h15, h22, h24]
def AT (Z : Zk) (b : Nat) (H : Heap) (k : Nat) : Prop := va_at Z.1 vwCl ((B0 Z b).1 k, cellE (B0 Z b) s0 k) H
theorem at_int {a k n : Nat} (h : va_at Z.1 vwCl (a, .inl (Z.2.1, n, .inl (fun _ => nI 0))) H) (hk : kd k = (0, n)) (ha : a = b + ord k) (hs : s0 k = fun _ => 0) (hc : (B0 Z b).2.1 k = Z.2.1) : AT Z b H k := by
  subst ha
  unfold AT cellE
  rw [hk, hs, hc]
  exact h
theorem at_boo {a k n : Nat} (h : va_at Z.1 vwCl (a, .inl (Z.2.2.1, n, .inl (fun _ => nI 0))) H) (hk : kd k = (1, n)) (ha : a = b + ord k) (hs : s0 k = fun _ => 0) (hc : (B0 Z b).2.1 k = Z.2.2.1) : AT Z b H k := by
  subst ha
  unfold AT cellE
  rw [hk, hs, hc]
  exact h
theorem at_ref {a k n : Nat} {f : Nat → Option Nat} (h : va_at Z.1 vwCl (a, .inl (Z.2.2.2, n, .inr (.inr (.inr (.inr f))))) H) (hk : kd k = (2, n)) (ha : a = b + ord k) (hc : (B0 Z b).2.1 k = Z.2.2.2) (hf : ∀ j, j < n → f j = some (b + ord (rT k j))) : AT Z b H k := by
  subst ha
  unfold AT cellE
  rw [hk, hc]
  show H[b + ord k]? = some (vp_cell Z.2.2.2 (n, .inr (.inr (.inr (.inr (fun i => some (b + ord (rT k i))))))))
  have h1 : H[b + ord k]? = some (vp_cell Z.2.2.2 (n, .inr (.inr (.inr (.inr f))))) := h
  rw [h1, vp_cell_q, vp_cell_q]
  congr 1
  exact arrV_cong (fun j hj => by rw [hf j hj])
theorem at_obj {a k ci : Nat} {fs gs : List Value} (h : va_at Z.1 vwCl (a, .inr (ci, fs)) H) (hk : cellE (B0 Z b) s0 k = .inr (ci, gs)) (ha : a = b + ord k) (hg : fs = gs) : AT Z b H k := by
  subst ha
  subst hg
  unfold AT
  rw [hk]
  exact h
theorem wp_app {D : va_G} {X Y : List va_E} {c c' : Nat} (h : va_P D vwCl (wl c (X ++ Y)) H) (hc : c + X.length = c') : va_P D vwCl (wl c X) H ∧ va_P D vwCl (wl c' Y) H := by
  subst hc
  rw [wl_app] at h
  refine ⟨fun i q hq => ?_, fun i q hq => ?_⟩
  · obtain ⟨j, hj⟩ := List.getElem?_of_mem (List.mem_append_left (wl (c + X.length) Y) (List.mem_of_getElem? hq))
    exact h j q hj
  · obtain ⟨j, hj⟩ := List.getElem?_of_mem (List.mem_append_right (wl c X) (List.mem_of_getElem? hq))
    exact h j q hj
theorem wp_at {D : va_G} {X : List va_E} {c : Nat} (h : va_P D vwCl (wl c X) H) (i : Nat) {e : va_E} (he : X[i]? = some e) : va_at D vwCl (c + i, e) H := h i _ (wl_get he)
theorem or_P : ∀ j, j < 19 → kd (45 + 3 * j) = (6, 0) ∧ kd (45 + 3 * j + 1) = (0, 5) ∧ kd (45 + 3 * j + 2) = (0, 25) ∧ ord (45 + 3 * j + 1) = ord (45 + 3 * j) + 1 ∧ ord (45 + 3 * j + 2) = ord (45 + 3 * j) + 2 := by decide +kernel
theorem at_pots {c j : Nat} (h : va_P Z.1 vwCl (wl c (kX3 Z c)) H) (hj : j < 19) (ho : c = b + ord (45 + 3 * j)) : AT Z b H (45 + 3 * j) ∧ AT Z b H (45 + 3 * j + 1) ∧ AT Z b H (45 + 3 * j + 2) := by
  obtain ⟨k0, k1, k2, o1, o2⟩ := or_P j hj
  refine ⟨at_obj (wp_at h 0 rfl) (cell_X3 k0) ho ?_, at_int (wp_at h 1 rfl) k1 (by omega) (s0_o (by omega) (by omega)) (cl_o (by omega) (by omega) (by omega)), at_int (wp_at h 2 rfl) k2 (by omega) (s0_o (by omega) (by omega)) (cl_o (by omega) (by omega) (by omega))⟩
  unfold fs3
  rw [s0_o (k := 45 + 3 * j) (by omega) (by omega)]
  show _ = [Value.ref (b + ord (45 + 3 * j + 1)), Value.ref (b + ord (45 + 3 * j + 2)), _, _]
  rw [o1, o2, ← Nat.add_assoc, ← Nat.add_assoc, ← ho]
theorem or_C : ∀ j, j < 2 → kd (29 + 8 * j) = (3, 0) ∧ kd (29 + 8 * j + 1) = (0, 4) ∧ kd (29 + 8 * j + 2) = (0, 6) ∧ kd (29 + 8 * j + 3) = (0, 6) ∧ kd (29 + 8 * j + 4) = (0, 6) ∧ kd (29 + 8 * j + 5) = (0, 5) ∧ kd (29 + 8 * j + 6) = (0, 5) ∧ kd (29 + 8 * j + 7) = (0, 12) ∧ ∀ r, r < 8 → ord (29 + 8 * j + r) = ord (29 + 8 * j) + r := by decide +kernel
theorem at_coast {c j : Nat} (h : va_P Z.1 vwCl (wl c (kX0 Z c)) H) (hj : j < 2) (ho : c = b + ord (29 + 8 * j)) : ∀ r, r < 8 → AT Z b H (29 + 8 * j + r) := by
  obtain ⟨k0, k1, k2, k3, k4, k5, k6, k7, orr⟩ := or_C j hj
  intro r hr
  have ho2 : ∀ r, r < 8 → c + r = b + ord (29 + 8 * j + r) := fun r hr => by rw [orr r hr, ho]; omega
  match r, hr with
  | 0, _ =>
    refine at_obj (wp_at h 0 rfl) (cell_X0 k0) (ho2 0 (by decide)) ?_
    unfold fs0
    rw [s0_o (k := 29 + 8 * j + 0) (by omega) (by omega)]
    show _ = [Value.ref (b + ord (29 + 8 * j + 1)), Value.ref (b + ord (29 + 8 * j + 2)), Value.ref (b + ord (29 + 8 * j + 3)), Value.ref (b + ord (29 + 8 * j + 4)), Value.ref (b + ord (29 + 8 * j + 5)), Value.ref (b + ord (29 + 8 * j + 6)), Value.ref (b + ord (29 + 8 * j + 7)), _, _, _, _]
    rw [← ho2 1 (by decide), ← ho2 2 (by decide), ← ho2 3 (by decide), ← ho2 4 (by decide), ← ho2 5 (by decide), ← ho2 6 (by decide), ← ho2 7 (by decide)]
  | 1, _ => exact at_int (wp_at h 1 rfl) k1 (ho2 1 (by decide)) (s0_o (by omega) (by omega)) (cl_o (by omega) (by omega) (by omega))
  | 2, _ => exact at_int (wp_at h 2 rfl) k2 (ho2 2 (by decide)) (s0_o (by omega) (by omega)) (cl_o (by omega) (by omega) (by omega))
  | 3, _ => exact at_int (wp_at h 3 rfl) k3 (ho2 3 (by decide)) (s0_o (by omega) (by omega)) (cl_o (by omega) (by omega) (by omega))
  | 4, _ => exact at_int (wp_at h 4 rfl) k4 (ho2 4 (by decide)) (s0_o (by omega) (by omega)) (cl_o (by omega) (by omega) (by omega))
  | 5, _ => exact at_int (wp_at h 5 rfl) k5 (ho2 5 (by decide)) (s0_o (by omega) (by omega)) (cl_o (by omega) (by omega) (by omega))
  | 6, _ => exact at_int (wp_at h 6 rfl) k6 (ho2 6 (by decide)) (s0_o (by omega) (by omega)) (cl_o (by omega) (by omega) (by omega))
  | 7, _ => exact at_int (wp_at h 7 rfl) k7 (ho2 7 (by decide)) (s0_o (by omega) (by omega)) (cl_o (by omega) (by omega) (by omega))
theorem wp_pots {D : va_G} {c : Nat} : ∀ {i : Nat}, va_P D vwCl (wl (c + 2) (potsR Z c i)) H → ∀ j, j < i → va_P D vwCl (wl (c + (2 + 3 * j)) (kX3 Z (c + (2 + 3 * j)))) H
  | 0, _, j, hj => absurd hj (Nat.not_lt_zero _)
  | i + 1, h, j, hj => by
    have h2 := wp_app (c' := c + (2 + 3 * i)) (X := potsR Z c i) (Y := kX3 Z (c + (2 + 3 * i))) h (by rw [potsR_len]; omega)
    by_cases e : j = i
    · subst e
      exact h2.2
    · exact wp_pots h2.1 j (by omega)
theorem or_R : ∀ j, j < 14 → ord (60 + 3 * j) = 29 + 3 * j := by decide +kernel
theorem or_K : ∀ j, j < 2 → ord (54 + 3 * j) = 79 + 3 * j := by decide +kernel
theorem at_past {c : Nat} (h : va_P Z.1 vwCl (wl c (kX2 Z c)) H) (hc : c = b + 27) : AT Z b H 23 ∧ AT Z b H 24 ∧ ∀ j, j < 14 → AT Z b H (60 + 3 * j) ∧ AT Z b H (60 + 3 * j + 1) ∧ AT Z b H (60 + 3 * j + 2) := by
  refine ⟨at_obj (wp_at h 0 rfl) (cell_X2 (by decide +kernel)) (by rw [or_23]; omega) ?_, at_ref (wp_at h 1 rfl) (by decide +kernel) (by rw [or_24]; omega) (by simp [B0]) ?_, fun j hj => ?_⟩
  · unfold fs2
    rw [s0_o (k := 23) (by decide) (by decide)]
    show _ = [Value.ref (b + ord 24), _, _]
    rw [or_24, hc]
  · intro j hj
    show (if j < 14 then some (c + (2 + 3 * j)) else none) = some (b + ord (60 + 3 * j))
    rw [if_pos hj, or_R j hj, hc]
    congr 1
    omega
  · have h2 : va_P Z.1 vwCl (wl (c + 2) (potsR Z c 14)) H := fun i q hq => h (i + 2) q hq
    have h3 := at_pots (b := b) (j := 5 + j) (wp_pots h2 j hj) (by omega) (by rw [show 45 + 3 * (5 + j) = 60 + 3 * j by omega, or_R j hj, hc]; omega)
    rw [show 45 + 3 * (5 + j) = 60 + 3 * j by omega] at h3
    exact h3
theorem at_mem {c : Nat} (h : va_P Z.1 vwCl (wl c (kX1 Z c)) H) (hc : c = b + 72) : AT Z b H 25 ∧ AT Z b H 26 ∧ AT Z b H 27 ∧ AT Z b H 28 := by
  refine ⟨at_obj (wp_at h 0 rfl) (cell_X1 (by decide +kernel)) (by rw [or_25]; omega) ?_, at_int (wp_at h 1 rfl) (by decide +kernel) (by rw [or_26]; omega) (s0_o (by decide) (by decide)) (cl_o (by decide) (by decide) (by decide)), at_int (wp_at h 2 rfl) (by decide +kernel) (by rw [or_27]; omega) (s0_o (by decide) (by decide)) (cl_o (by decide) (by decide) (by decide)), at_int (wp_at h 3 rfl) (by decide +kernel) (by rw [or_28]; omega) (s0_o (by decide) (by decide)) (cl_o (by decide) (by decide) (by decide))⟩
  unfold fs1
  rw [s0_o (k := 25) (by decide) (by decide)]
  show _ = [Value.ref (b + ord 26), Value.ref (b + ord 27), Value.ref (b + ord 28), _]
  rw [or_26, or_27, or_28, hc]
theorem at_model {c : Nat} (h : va_P Z.1 vwCl (wl c (kX5 Z c)) H) (hc : c = b + 85) : ∀ k, k < 17 → AT Z b H k := by
  intro k hk
  match k, hk with
  | 0, _ =>
    refine at_obj (wp_at h 0 rfl) (cell_X5 (by decide +kernel)) (by rw [or_0]; omega) ?_
    simp [fs5, B0, s0, hc, or_1, or_2, or_3, or_4, or_5, or_6, or_7, or_8, or_9, or_10, or_11, or_12, or_13, or_14, or_15, or_16]
  | 1, _ => exact at_int (wp_at h 1 rfl) (by decide +kernel) (by rw [or_1]; omega) (s0_o (by decide) (by decide)) (cl_o (by decide) (by decide) (by decide))
  | 2, _ => exact at_int (wp_at h 2 rfl) (by decide +kernel) (by rw [or_2]; omega) (s0_o (by decide) (by decide)) (cl_o (by decide) (by decide) (by decide))
  | 3, _ => exact at_int (wp_at h 3 rfl) (by decide +kernel) (by rw [or_3]; omega) (s0_o (by decide) (by decide)) (cl_o (by decide) (by decide) (by decide))
  | 4, _ => exact at_int (wp_at h 4 rfl) (by decide +kernel) (by rw [or_4]; omega) (s0_o (by decide) (by decide)) (cl_o (by decide) (by decide) (by decide))
  | 5, _ => exact at_int (wp_at h 5 rfl) (by decide +kernel) (by rw [or_5]; omega) (s0_o (by decide) (by decide)) (cl_o (by decide) (by decide) (by decide))
  | 6, _ => exact at_int (wp_at h 6 rfl) (by decide +kernel) (by rw [or_6]; omega) (s0_o (by decide) (by decide)) (cl_o (by decide) (by decide) (by decide))
  | 7, _ => exact at_int (wp_at h 7 rfl) (by decide +kernel) (by rw [or_7]; omega) (s0_o (by decide) (by decide)) (cl_o (by decide) (by decide) (by decide))
  | 8, _ => exact at_int (wp_at h 8 rfl) (by decide +kernel) (by rw [or_8]; omega) (s0_o (by decide) (by decide)) (cl_o (by decide) (by decide) (by decide))
  | 9, _ => exact at_int (wp_at h 9 rfl) (by decide +kernel) (by rw [or_9]; omega) (s0_o (by decide) (by decide)) (cl_o (by decide) (by decide) (by decide))
  | 10, _ => exact at_int (wp_at h 10 rfl) (by decide +kernel) (by rw [or_10]; omega) (s0_o (by decide) (by decide)) (cl_o (by decide) (by decide) (by decide))
  | 11, _ => exact at_int (wp_at h 11 rfl) (by decide +kernel) (by rw [or_11]; omega) (s0_o (by decide) (by decide)) (cl_o (by decide) (by decide) (by decide))
  | 12, _ => exact at_int (wp_at h 12 rfl) (by decide +kernel) (by rw [or_12]; omega) (s0_o (by decide) (by decide)) (cl_o (by decide) (by decide) (by decide))
  | 13, _ => exact at_int (wp_at h 13 rfl) (by decide +kernel) (by rw [or_13]; omega) (s0_o (by decide) (by decide)) (cl_o (by decide) (by decide) (by decide))
  | 14, _ => exact at_int (wp_at h 14 rfl) (by decide +kernel) (by rw [or_14]; omega) (s0_o (by decide) (by decide)) (cl_o (by decide) (by decide) (by decide))
  | 15, _ => exact at_boo (wp_at h 15 rfl) (by decide +kernel) (by rw [or_15]; omega) (s0_o (by decide) (by decide)) (by simp [B0])
  | 16, _ => exact at_int (wp_at h 16 rfl) (by decide +kernel) (by rw [or_16]; omega) (s0_o (by decide) (by decide)) (cl_o (by decide) (by decide) (by decide))
  | k + 17, hk => exact absurd hk (by omega)
theorem at_all (h : va_P Z.1 vwCl (wl b (kAl Z b)) H) : ∀ k, k < 102 → AT Z b H k := by
  obtain ⟨h, h5⟩ := wp_app (c' := b + 85) (X := kX4 Z b) (Y := kX5 Z (b + 85)) h (by rw [l_X4])
  have a17 : va_at Z.1 vwCl (b + 0, .inr (4, [.ref (b + 1), .int (nI 0), .ref (b + 2), .ref (b + 10), .ref (b + 18), .ref (b + 21), .ref (b + 24), .ref (b + 27), .ref (b + 71), .int (nI 0), .ref (b + 72), .long (lN 0), .ref (b + 76), .ref (b + 77), .ref (b + 78)])) H := wp_at h 0 rfl
  have hR : va_P Z.1 vwCl (wl (b + 1) (kX4 Z b).tail) H := fun i q hq => h (i + 1) q hq
  unfold kX4 at hR
  rw [List.tail_cons] at hR
  obtain ⟨hR, b13⟩ := wp_app (c' := b + 82) hR (by simp only [List.length_append, List.length_cons, List.length_nil, l_X0, l_X1, l_X2, l_X3] <;> omega)
  obtain ⟨hR, b12⟩ := wp_app (c' := b + 79) hR (by simp only [List.length_append, List.length_cons, List.length_nil, l_X0, l_X1, l_X2, l_X3] <;> omega)
  obtain ⟨hR, b11⟩ := wp_app (c' := b + 78) hR (by simp only [List.length_append, List.length_cons, List.length_nil, l_X0, l_X1, l_X2, l_X3] <;> omega)
  obtain ⟨hR, b10⟩ := wp_app (c' := b + 77) hR (by simp only [List.length_append, List.length_cons, List.length_nil, l_X0, l_X1, l_X2, l_X3] <;> omega)
  obtain ⟨hR, b9⟩ := wp_app (c' := b + 76) hR (by simp only [List.length_append, List.length_cons, List.length_nil, l_X0, l_X1, l_X2, l_X3] <;> omega)
  obtain ⟨hR, b8⟩ := wp_app (c' := b + 72) hR (by simp only [List.length_append, List.length_cons, List.length_nil, l_X0, l_X1, l_X2, l_X3] <;> omega)
  obtain ⟨hR, b7⟩ := wp_app (c' := b + 71) hR (by simp only [List.length_append, List.length_cons, List.length_nil, l_X0, l_X1, l_X2, l_X3] <;> omega)
  obtain ⟨hR, b6⟩ := wp_app (c' := b + 27) hR (by simp only [List.length_append, List.length_cons, List.length_nil, l_X0, l_X1, l_X2, l_X3] <;> omega)
  obtain ⟨hR, b5⟩ := wp_app (c' := b + 24) hR (by simp only [List.length_append, List.length_cons, List.length_nil, l_X0, l_X1, l_X2, l_X3] <;> omega)
  obtain ⟨hR, b4⟩ := wp_app (c' := b + 21) hR (by simp only [List.length_append, List.length_cons, List.length_nil, l_X0, l_X1, l_X2, l_X3] <;> omega)
  obtain ⟨hR, b3⟩ := wp_app (c' := b + 18) hR (by simp only [List.length_append, List.length_cons, List.length_nil, l_X0, l_X1, l_X2, l_X3] <;> omega)
  obtain ⟨hR, b2⟩ := wp_app (c' := b + 10) hR (by simp only [List.length_append, List.length_cons, List.length_nil, l_X0, l_X1, l_X2, l_X3] <;> omega)
  obtain ⟨hR, b1⟩ := wp_app (c' := b + 2) hR (by simp only [List.length_append, List.length_cons, List.length_nil, l_X0, l_X1, l_X2, l_X3] <;> omega)
  have c18 : AT Z b H 18 := at_int (wp_at hR 0 rfl) (by decide +kernel) (by rw [or_18]) (s0_o (by decide) (by decide)) (cl_o (by decide) (by decide) (by decide))
  have c17 : AT Z b H 17 := by
    refine at_obj a17 (cell_X4 (by decide +kernel)) (by rw [or_17]) ?_
    simp [fs4, B0, s0, or_18, or_19, or_20, or_21, or_22, or_23, or_25, or_29, or_37, or_45, or_48, or_51]
  have cA := at_coast (b := b) (j := 0) b1 (by decide) (by rw [show 29 + 8 * 0 = 29 from rfl, or_29])
  have cB := at_coast (b := b) (j := 1) b2 (by decide) (by rw [show 29 + 8 * 1 = 37 from rfl, or_37])
  have p0 := at_pots (b := b) (j := 0) b3 (by decide) (by rw [show 45 + 3 * 0 = 45 from rfl, or_45])
  have p1 := at_pots (b := b) (j := 1) b4 (by decide) (by rw [show 45 + 3 * 1 = 48 from rfl, or_48])
  have p2 := at_pots (b := b) (j := 2) b5 (by decide) (by rw [show 45 + 3 * 2 = 51 from rfl, or_51])
  obtain ⟨c23, c24, cP⟩ := at_past (b := b) b6 rfl
  have c22 : AT Z b H 22 := by
    refine at_ref (wp_at b7 0 rfl) (by decide +kernel) (by rw [or_22]) (by simp [B0]) (fun j hj => ?_)
    rcases (show j = 0 ∨ j = 1 by omega) with rfl | rfl
    · rw [show rT 22 0 = 54 from rfl, or_54]; rfl
    · rw [show rT 22 1 = 57 from rfl, or_57]; rfl
  obtain ⟨c25, c26, c27, c28⟩ := at_mem (b := b) b8 rfl
  have c19 : AT Z b H 19 := at_int (wp_at b9 0 rfl) (by decide +kernel) (by rw [or_19]) (s0_o (by decide) (by decide)) (cl_o (by decide) (by decide) (by decide))
  have c20 : AT Z b H 20 := at_int (wp_at b10 0 rfl) (by decide +kernel) (by rw [or_20]) (s0_o (by decide) (by decide)) (cl_o (by decide) (by decide) (by decide))
  have c21 : AT Z b H 21 := at_int (wp_at b11 0 rfl) (by decide +kernel) (by rw [or_21]) (s0_o (by decide) (by decide)) (cl_o (by decide) (by decide) (by decide))
  have p3 := at_pots (b := b) (j := 3) b12 (by decide) (by rw [show 45 + 3 * 3 = 54 from rfl, or_54])
  have p4 := at_pots (b := b) (j := 4) b13 (by decide) (by rw [show 45 + 3 * 4 = 57 from rfl, or_57])
  have hM := at_model (b := b) h5 rfl
  have key : ∀ j, j < 19 → AT Z b H (45 + 3 * j) ∧ AT Z b H (45 + 3 * j + 1) ∧ AT Z b H (45 + 3 * j + 2) := by
    intro j hj
    by_cases h5 : j < 5
    · match j, h5 with
      | 0, _ => exact p0
      | 1, _ => exact p1
      | 2, _ => exact p2
      | 3, _ => exact p3
      | 4, _ => exact p4
    · have h6 := cP (j - 5) (by omega)
      rw [show 60 + 3 * (j - 5) = 45 + 3 * j by omega] at h6
      exact h6
  intro k hk
  by_cases h1 : k < 17
  · exact hM k h1
  by_cases h2 : k < 29
  · rcases (show k = 17 ∨ k = 18 ∨ k = 19 ∨ k = 20 ∨ k = 21 ∨ k = 22 ∨ k = 23 ∨ k = 24 ∨ k = 25 ∨ k = 26 ∨ k = 27 ∨ k = 28 by omega) with rfl | rfl | rfl | rfl | rfl | rfl | rfl | rfl | rfl | rfl | rfl | rfl <;> assumption
  by_cases h3 : k < 37
  · have := cA (k - 29) (by omega)
    rw [show 29 + 8 * 0 + (k - 29) = k by omega] at this
    exact this
  by_cases h4 : k < 45
  · have := cB (k - 37) (by omega)
    rw [show 29 + 8 * 1 + (k - 37) = k by omega] at this
    exact this
  have h5 := key ((k - 45) / 3) (by omega)
  have h6 : (k - 45) % 3 < 3 := Nat.mod_lt _ (by decide)
  have h7 : k = 45 + 3 * ((k - 45) / 3) + (k - 45) % 3 := by omega
  rcases (show (k - 45) % 3 = 0 ∨ (k - 45) % 3 = 1 ∨ (k - 45) % 3 = 2 by omega) with e | e | e
  · rw [e] at h7; rw [h7]; exact h5.1
  · rw [e] at h7; rw [h7]; exact h5.2.1
  · rw [e] at h7; rw [h7]; exact h5.2.2
theorem made (h : va_P Z.1 vwCl (wl b (kAl Z b)) H) : va_P (B0 Z b).2.2 vwCl (wsOf (B0 Z b) s0) H := by
  intro k q hq
  by_cases hk : k < 102
  · rw [ws_at hk] at hq
    cases hq
    exact at_all h k hk
  · rw [List.getElem?_eq_none (by simp [wsOf]; omega)] at hq
    cases hq
theorem tyK_o : ∀ k, k < 102 → k ≠ 15 → k ≠ 22 → k ≠ 24 → (kd k).1 ≠ 1 ∧ (kd k).1 ≠ 2 := by decide +kernel
theorem KB_0 {U : State} (h : KT Z U) (hN : NW U) : KB (B0 Z b) U := by
  refine ⟨⟨h.1.1, fun k q hq => ?_⟩, B0_BI Z b, hN⟩
  by_cases hk : k < 102
  · rw [ty_at hk] at hq
    cases hq
    by_cases h15 : k = 15
    · subst h15
      exact h.1.2 1 (Z.2.2.1, .boolean) rfl
    by_cases h22 : k = 22
    · subst h22
      exact h.1.2 2 (Z.2.2.2, .object RX3) rfl
    by_cases h24 : k = 24
    · subst h24
      exact h.1.2 2 (Z.2.2.2, .object RX3) rfl
    have e : tyK k = .int := by
      obtain ⟨h1, h2⟩ := tyK_o k hk h15 h22 h24
      unfold tyK
      split
      · contradiction
      · contradiction
      · rfl
    rw [e, cl_o h15 h22 h24]
    exact h.1.2 0 (Z.2.1, .int) rfl
  · rw [List.getElem?_eq_none (by simp [tysOf]; omega)] at hq
    cases hq
end ZZ
