section RW
variable {E : EE} {B : Bk} {own : String} {cc : ByteArray} {nL d : Nat} {Q : State → Prop} {pc : Nat} {lv : List (Option Value)} {st : List Value} {σ : St}
theorem V_iconst {n : Int} (m : Nat) (hd : decode cc pc = .ok (.iconst n, 1)) (hv : Int32.ofInt n = nI m) (k : V E B own cc nL d Q (pc + 1) (lv) (.int (nI m) :: st) (σ)) : V E B own cc nL d Q pc lv (st) σ := fun ok H locs ls hI hl => lv_iconst ok.1 ok.2.1 hd hv (k ok H locs ls hI hl)
theorem V_bipush {n : Int} (m : Nat) (hd : decode cc pc = .ok (.bipush n, 2)) (hv : (Int8.ofInt n).toInt32 = nI m) (k : V E B own cc nL d Q (pc + 2) (lv) (.int (nI m) :: st) (σ)) : V E B own cc nL d Q pc lv (st) σ := fun ok H locs ls hI hl => lv_bipush ok.1 ok.2.1 hd hv (k ok H locs ls hI hl)
theorem V_sipush {n : Int} (m : Nat) (hd : decode cc pc = .ok (.sipush n, 3)) (hv : (Int16.ofInt n).toInt32 = nI m) (k : V E B own cc nL d Q (pc + 3) (lv) (.int (nI m) :: st) (σ)) : V E B own cc nL d Q pc lv (st) σ := fun ok H locs ls hI hl => lv_sipush ok.1 ok.2.1 hd hv (k ok H locs ls hI hl)
theorem V_ldc_w {i : Nat} {v : Int32} (hc : Cond.constant own i v ∈ gw) (hd : decode cc pc = .ok (.ldc_w i, 3)) (k : V E B own cc nL d Q (pc + 3) (lv) (.int v :: st) (σ)) : V E B own cc nL d Q pc lv (st) σ := fun ok H locs ls hI hl => lv_ldcw ok.1 ok.2.1 ok.2.2.2.1 (ok.2.2.2.2.1 _ hc) hd (k ok H locs ls hI hl)
theorem V_ldc2 {i : Nat} {v : Int64} (hc : Cond.constantLong own i v ∈ gw) (hd : decode cc pc = .ok (.ldc2_w i, 3)) (k : V E B own cc nL d Q (pc + 3) (lv) (.long v :: st) (σ)) : V E B own cc nL d Q pc lv (st) σ := fun ok H locs ls hI hl => lv_ldc2 ok.1 ok.2.1 ok.2.2.2.1 (ok.2.2.2.2.1 _ hc) hd (k ok H locs ls hI hl)
theorem V_lconst {n : Fin 2} {v : Int64} (hd : decode cc pc = .ok (.lconst n, 1)) (hv : Int64.ofNat (n : Nat) = v) (k : V E B own cc nL d Q (pc + 1) (lv) (.long v :: st) (σ)) : V E B own cc nL d Q pc lv (st) σ := fun ok H locs ls hI hl => lv_lconst ok.1 ok.2.1 hd hv (k ok H locs ls hI hl)
theorem V_iload_n {i : Fin 4} {x : Int32} (hd : decode cc pc = .ok (.iload_n i, 1)) (hx : lv[(i : Nat)]? = some (some (.int x))) (k : V E B own cc nL d Q (pc + 1) (lv) (.int x :: st) (σ)) : V E B own cc nL d Q pc lv (st) σ := fun ok H locs ls hI hl => lv_iload_n ok.1 ok.2.1 hd rfl (hl.2.2 _ _ hx) (k ok H locs ls hI hl)
theorem V_iload {i : Nat} {x : Int32} (hd : decode cc pc = .ok (.iload i, 2)) (hx : lv[i]? = some (some (.int x))) (k : V E B own cc nL d Q (pc + 2) (lv) (.int x :: st) (σ)) : V E B own cc nL d Q pc lv (st) σ := fun ok H locs ls hI hl => lv_iload ok.1 ok.2.1 hd (hl.2.2 _ _ hx) (k ok H locs ls hI hl)
theorem V_istore_n {i : Fin 4} {x : Int32} (hd : decode cc pc = .ok (.istore_n i, 1)) (hn : (i : Nat) < nL) (hk : okS lv i = true) (k : V E B own cc nL d Q (pc + 1) (lv.set i (some (.int x))) (st) (σ)) : V E B own cc nL d Q pc lv (.int x :: st) σ := fun ok H locs ls hI hl => lv_istore_n ok.1 ok.2.1 hd rfl hl.has hn rfl (fun ls' h' => k ok H locs ls' hI (LV.st1 h' hk))
theorem V_istore {i : Nat} {x : Int32} (hd : decode cc pc = .ok (.istore i, 2)) (hn : i < nL) (hk : okS lv i = true) (k : V E B own cc nL d Q (pc + 2) (lv.set i (some (.int x))) (st) (σ)) : V E B own cc nL d Q pc lv (.int x :: st) σ := fun ok H locs ls hI hl => lv_istore ok.1 ok.2.1 hd hl.has hn rfl (fun ls' h' => k ok H locs ls' hI (LV.st1 h' hk))
theorem V_lload_n {i : Fin 4} {x : Int64} (hd : decode cc pc = .ok (.lload_n i, 1)) (hx : lv[(i : Nat)]? = some (some (.long x))) (k : V E B own cc nL d Q (pc + 1) (lv) (.long x :: st) (σ)) : V E B own cc nL d Q pc lv (st) σ := fun ok H locs ls hI hl => lv_lload_n ok.1 ok.2.1 hd rfl (hl.2.2 _ _ hx) (k ok H locs ls hI hl)
theorem V_lload {i : Nat} {x : Int64} (hd : decode cc pc = .ok (.lload i, 2)) (hx : lv[i]? = some (some (.long x))) (k : V E B own cc nL d Q (pc + 2) (lv) (.long x :: st) (σ)) : V E B own cc nL d Q pc lv (st) σ := fun ok H locs ls hI hl => lv_lload ok.1 ok.2.1 hd (hl.2.2 _ _ hx) (k ok H locs ls hI hl)
theorem V_lstore_n {i : Fin 4} {x : Int64} (hd : decode cc pc = .ok (.lstore_n i, 1)) (hn : (i : Nat) + 1 < nL) (hk : okS lv i = true) (k : V E B own cc nL d Q (pc + 1) ((lv.set i (some (.long x))).set (i + 1) none) (st) (σ)) : V E B own cc nL d Q pc lv (.long x :: st) σ := fun ok H locs ls hI hl => lv_lstore_n ok.1 ok.2.1 hd rfl hl.has hn rfl (fun ls' h' => k ok H locs ls' hI (LV.st2 h' hk))
theorem V_lstore {i : Nat} {x : Int64} (hd : decode cc pc = .ok (.lstore i, 2)) (hn : i + 1 < nL) (hk : okS lv i = true) (k : V E B own cc nL d Q (pc + 2) ((lv.set i (some (.long x))).set (i + 1) none) (st) (σ)) : V E B own cc nL d Q pc lv (.long x :: st) σ := fun ok H locs ls hI hl => lv_lstore ok.1 ok.2.1 hd hl.has hn rfl (fun ls' h' => k ok H locs ls' hI (LV.st2 h' hk))
theorem V_aload_n {i : Fin 4} {x : Nat} (hd : decode cc pc = .ok (.aload_n i, 1)) (hx : lv[(i : Nat)]? = some (some (.ref x))) (k : V E B own cc nL d Q (pc + 1) (lv) (.ref x :: st) (σ)) : V E B own cc nL d Q pc lv (st) σ := fun ok H locs ls hI hl => lv_aload_n ok.1 ok.2.1 hd rfl (hl.2.2 _ _ hx) (k ok H locs ls hI hl)
theorem V_aload {i : Nat} {x : Nat} (hd : decode cc pc = .ok (.aload i, 2)) (hx : lv[i]? = some (some (.ref x))) (k : V E B own cc nL d Q (pc + 2) (lv) (.ref x :: st) (σ)) : V E B own cc nL d Q pc lv (st) σ := fun ok H locs ls hI hl => lv_aload ok.1 ok.2.1 hd (hl.2.2 _ _ hx) (k ok H locs ls hI hl)
theorem V_astore_n {i : Fin 4} {x : Nat} (hd : decode cc pc = .ok (.astore_n i, 1)) (hn : (i : Nat) < nL) (hk : okS lv i = true) (k : V E B own cc nL d Q (pc + 1) (lv.set i (some (.ref x))) (st) (σ)) : V E B own cc nL d Q pc lv (.ref x :: st) σ := fun ok H locs ls hI hl => lv_astore_n ok.1 ok.2.1 hd rfl hl.has hn rfl (fun ls' h' => k ok H locs ls' hI (LV.st1 h' hk))
theorem V_astore {i : Nat} {x : Nat} (hd : decode cc pc = .ok (.astore i, 2)) (hn : i < nL) (hk : okS lv i = true) (k : V E B own cc nL d Q (pc + 2) (lv.set i (some (.ref x))) (st) (σ)) : V E B own cc nL d Q pc lv (.ref x :: st) σ := fun ok H locs ls hI hl => lv_astore ok.1 ok.2.1 hd hl.has hn rfl (fun ls' h' => k ok H locs ls' hI (LV.st1 h' hk))
theorem V_aload_nN {i : Fin 4} (hd : decode cc pc = .ok (.aload_n i, 1)) (hx : lv[(i : Nat)]? = some (some .null)) (k : V E B own cc nL d Q (pc + 1) (lv) (.null :: st) (σ)) : V E B own cc nL d Q pc lv (st) σ := fun ok H locs ls hI hl => lv_aload_nN ok.1 ok.2.1 hd rfl (hl.2.2 _ _ hx) (k ok H locs ls hI hl)
theorem V_astore_nN {i : Fin 4} (hd : decode cc pc = .ok (.astore_n i, 1)) (hn : (i : Nat) < nL) (hk : okS lv i = true) (k : V E B own cc nL d Q (pc + 1) (lv.set i (some .null)) (st) (σ)) : V E B own cc nL d Q pc lv (.null :: st) σ := fun ok H locs ls hI hl => lv_astore_nN ok.1 ok.2.1 hd rfl hl.has hn rfl (fun ls' h' => k ok H locs ls' hI (LV.st1 h' hk))
theorem V_iinc {i a : Nat} {n : Int} (m : Nat) (hd : decode cc pc = .ok (.iinc i n, 3)) (hv : Int32.ofInt n = nI m) (hx : lv[i]? = some (some (.int (nI a)))) (hn : i < nL) (hk : okS lv i = true) (k : V E B own cc nL d Q (pc + 3) (lv.set i (some (.int (nI (a + m))))) (st) (σ)) : V E B own cc nL d Q pc lv (st) σ := fun ok H locs ls hI hl => by
  obtain ⟨j, hj⟩ := List.getElem?_of_mem (asc_mem.mpr hx)
  exact lv_iinc ok.1 ok.2.1 hd hl.has hj (by rw [hv, nI_add]) hn rfl (fun ls' h' => k ok H locs ls' hI (LV.st1 h' hk))
theorem nz_and (a b : Nat) : nI a &&& nI b = nI (a &&& b) := by
  apply Int32.toBitVec_inj.1
  show BitVec.ofNat 32 a &&& BitVec.ofNat 32 b = BitVec.ofNat 32 (a &&& b)
  apply BitVec.eq_of_getLsbD_eq
  intro i hi
  simp [hi]
theorem nz_or (a b : Nat) : nI a ||| nI b = nI (a ||| b) := by
  apply Int32.toBitVec_inj.1
  show BitVec.ofNat 32 a ||| BitVec.ofNat 32 b = BitVec.ofNat 32 (a ||| b)
  apply BitVec.eq_of_getLsbD_eq
  intro i hi
  simp [hi]
theorem nz_xor (a b : Nat) : nI a ^^^ nI b = nI (a ^^^ b) := by
  apply Int32.toBitVec_inj.1
  show BitVec.ofNat 32 a ^^^ BitVec.ofNat 32 b = BitVec.ofNat 32 (a ^^^ b)
  apply BitVec.eq_of_getLsbD_eq
  intro i hi
  simp [hi]
theorem nz_cnt : ∀ n, n < 32 → ((nI n &&& 31).toBitVec.smod 32).toNat = n := by decide +kernel
theorem nz_shl {a c : Nat} (hc : c < 32) : nI a <<< (nI c &&& 31) = nI (a * 2 ^ c) := by
  apply Int32.toBitVec_inj.mp
  apply BitVec.eq_of_toNat_eq
  rw [pk_shl _ _ c (nz_cnt c hc)]
  show BitVec.toNat (BitVec.ofNat 32 a) * 2 ^ c % 2 ^ 32 = BitVec.toNat (BitVec.ofNat 32 (a * 2 ^ c))
  rw [BitVec.toNat_ofNat, BitVec.toNat_ofNat, Nat.mod_mul_mod]
theorem nz_shr {a c : Nat} (ha : a < 2 ^ 31) (hc : c < 32) : nI a >>> (nI c &&& 31) = nI (a / 2 ^ c) := pk_shrN ha _ c (nz_cnt c hc)
theorem nz_eq {a b : Nat} (ha : a < 2 ^ 32) (hb : b < 2 ^ 32) : nI a = nI b ↔ a = b := by
  constructor
  · intro h
    have h1 := congrArg (fun x : Int32 => x.toBitVec.toNat) h
    simp only [pk_tn ha, pk_tn hb] at h1
    exact h1
  · intro h; rw [h]
theorem nz_neg {a : Nat} (h : 2 ^ 31 ≤ a) (ha : a < 2 ^ 32) : (nI a).toInt = (a : Int) - 2 ^ 32 := by
  show (BitVec.ofNat 32 a).toInt = _
  rw [BitVec.toInt_eq_toNat_cond, BitVec.toNat_ofNat, Nat.mod_eq_of_lt ha]
  rw [if_neg (by omega)]
  rfl
theorem nz_lt0 {a : Nat} (ha : a < 2 ^ 32) : nI a < 0 ↔ 2 ^ 31 ≤ a := by
  rw [Int32.lt_iff_toInt_lt, Int32.toInt_zero]
  by_cases h : a < 2 ^ 31
  · rw [nI_toInt h]; omega
  · rw [nz_neg (by omega) ha]; omega
theorem nz_lt {a b : Nat} (ha : a < 2 ^ 32) (hb : b < 2 ^ 31) : nI a < nI b ↔ (2 ^ 31 ≤ a ∨ a < b) := by
  rw [Int32.lt_iff_toInt_lt, nI_toInt hb]
  by_cases h : a < 2 ^ 31
  · rw [nI_toInt h]; omega
  · rw [nz_neg (by omega) ha]; omega
theorem nz_le {a b : Nat} (ha : a < 2 ^ 32) (hb : b < 2 ^ 31) : nI a ≤ nI b ↔ (2 ^ 31 ≤ a ∨ a ≤ b) := by
  rw [Int32.le_iff_toInt_le, nI_toInt hb]
  by_cases h : a < 2 ^ 31
  · rw [nI_toInt h]; omega
  · rw [nz_neg (by omega) ha]; omega
theorem V_iadd {a b : Nat} (hd : decode cc pc = .ok (.iadd, 1)) (k : V E B own cc nL d Q (pc + 1) (lv) (.int (nI (a + b)) :: st) (σ)) : V E B own cc nL d Q pc lv (.int (nI b) :: .int (nI a) :: st) σ := fun ok H locs ls hI hl => lv_iadd ok.1 ok.2.1 hd (by rw [nI_add]; exact k ok H locs ls hI hl)
theorem V_isub {a b : Nat} (hd : decode cc pc = .ok (.isub, 1)) (h : b ≤ a) (k : V E B own cc nL d Q (pc + 1) (lv) (.int (nI (a - b)) :: st) (σ)) : V E B own cc nL d Q pc lv (.int (nI b) :: .int (nI a) :: st) σ := fun ok H locs ls hI hl => lv_isub ok.1 ok.2.1 hd (by rw [pk_sub h]; exact k ok H locs ls hI hl)
theorem V_imul {a b : Nat} (hd : decode cc pc = .ok (.imul, 1)) (k : V E B own cc nL d Q (pc + 1) (lv) (.int (nI (a * b)) :: st) (σ)) : V E B own cc nL d Q pc lv (.int (nI b) :: .int (nI a) :: st) σ := fun ok H locs ls hI hl => lv_imul ok.1 ok.2.1 hd (by rw [pk_mul]; exact k ok H locs ls hI hl)
theorem V_iand {a b : Nat} (hd : decode cc pc = .ok (.iand, 1)) (k : V E B own cc nL d Q (pc + 1) (lv) (.int (nI (a &&& b)) :: st) (σ)) : V E B own cc nL d Q pc lv (.int (nI b) :: .int (nI a) :: st) σ := fun ok H locs ls hI hl => lv_iand ok.1 ok.2.1 hd (by rw [nz_and]; exact k ok H locs ls hI hl)
theorem V_ior {a b : Nat} (hd : decode cc pc = .ok (.ior, 1)) (k : V E B own cc nL d Q (pc + 1) (lv) (.int (nI (a ||| b)) :: st) (σ)) : V E B own cc nL d Q pc lv (.int (nI b) :: .int (nI a) :: st) σ := fun ok H locs ls hI hl => lv_ior ok.1 ok.2.1 hd (by rw [nz_or]; exact k ok H locs ls hI hl)
theorem V_ixor {a b : Nat} (hd : decode cc pc = .ok (.ixor, 1)) (k : V E B own cc nL d Q (pc + 1) (lv) (.int (nI (a ^^^ b)) :: st) (σ)) : V E B own cc nL d Q pc lv (.int (nI b) :: .int (nI a) :: st) σ := fun ok H locs ls hI hl => lv_ixor ok.1 ok.2.1 hd (by rw [nz_xor]; exact k ok H locs ls hI hl)
theorem V_ishl {a b : Nat} (hd : decode cc pc = .ok (.ishl, 1)) (h : b < 32) (k : V E B own cc nL d Q (pc + 1) (lv) (.int (nI (a * 2 ^ b)) :: st) (σ)) : V E B own cc nL d Q pc lv (.int (nI b) :: .int (nI a) :: st) σ := fun ok H locs ls hI hl => lv_ishl ok.1 ok.2.1 hd (by rw [nz_shl h]; exact k ok H locs ls hI hl)
theorem V_ishr {a b : Nat} (hd : decode cc pc = .ok (.ishr, 1)) (ha : a < 2 ^ 31) (h : b < 32) (k : V E B own cc nL d Q (pc + 1) (lv) (.int (nI (a / 2 ^ b)) :: st) (σ)) : V E B own cc nL d Q pc lv (.int (nI b) :: .int (nI a) :: st) σ := fun ok H locs ls hI hl => lv_ishr ok.1 ok.2.1 hd (by rw [nz_shr ha h]; exact k ok H locs ls hI hl)
theorem V_idiv {a b : Nat} (hd : decode cc pc = .ok (.idiv, 1)) (ha : a < 2 ^ 31) (h0 : 0 < b) (hb : b < 2 ^ 31) (k : V E B own cc nL d Q (pc + 1) (lv) (.int (nI (a / b)) :: st) (σ)) : V E B own cc nL d Q pc lv (.int (nI b) :: .int (nI a) :: st) σ := fun ok H locs ls hI hl => lv_idiv ok.1 ok.2.1 hd (nI_ne0 h0 hb) (by rw [pk_div ha h0 hb]; exact k ok H locs ls hI hl)
theorem V_irem {a b : Nat} (hd : decode cc pc = .ok (.irem, 1)) (ha : a < 2 ^ 31) (h0 : 0 < b) (hb : b < 2 ^ 31) (k : V E B own cc nL d Q (pc + 1) (lv) (.int (nI (a % b)) :: st) (σ)) : V E B own cc nL d Q pc lv (.int (nI b) :: .int (nI a) :: st) σ := fun ok H locs ls hI hl => lv_irem ok.1 ok.2.1 hd (nI_ne0 h0 hb) (by rw [pk_rem ha h0 hb]; exact k ok H locs ls hI hl)
theorem V_iaddR {x y : Int32} (hd : decode cc pc = .ok (.iadd, 1)) (k : V E B own cc nL d Q (pc + 1) (lv) (.int (x + y) :: st) (σ)) : V E B own cc nL d Q pc lv (.int y :: .int x :: st) σ := fun ok H locs ls hI hl => lv_iadd ok.1 ok.2.1 hd (k ok H locs ls hI hl)
theorem V_isubR {x y : Int32} (hd : decode cc pc = .ok (.isub, 1)) (k : V E B own cc nL d Q (pc + 1) (lv) (.int (x - y) :: st) (σ)) : V E B own cc nL d Q pc lv (.int y :: .int x :: st) σ := fun ok H locs ls hI hl => lv_isub ok.1 ok.2.1 hd (k ok H locs ls hI hl)
theorem V_imulR {x y : Int32} (hd : decode cc pc = .ok (.imul, 1)) (k : V E B own cc nL d Q (pc + 1) (lv) (.int (x * y) :: st) (σ)) : V E B own cc nL d Q pc lv (.int y :: .int x :: st) σ := fun ok H locs ls hI hl => lv_imul ok.1 ok.2.1 hd (k ok H locs ls hI hl)
theorem V_inegR {x : Int32} (hd : decode cc pc = .ok (.ineg, 1)) (k : V E B own cc nL d Q (pc + 1) (lv) (.int (-x) :: st) (σ)) : V E B own cc nL d Q pc lv (.int x :: st) σ := fun ok H locs ls hI hl => lv_ineg ok.1 ok.2.1 hd (k ok H locs ls hI hl)
theorem V_iushrR {x y v : Int32} (hd : decode cc pc = .ok (.iushr, 1)) (hv : (x.toUInt32 >>> (y.toUInt32 &&& Int32.toUInt32 31)).toInt32 = v) (k : V E B own cc nL d Q (pc + 1) (lv) (.int v :: st) (σ)) : V E B own cc nL d Q pc lv (.int y :: .int x :: st) σ := fun ok H locs ls hI hl => lv_iushr ok.1 ok.2.1 hd hv (k ok H locs ls hI hl)
theorem V_ladd {x y : Int64} (hd : decode cc pc = .ok (.ladd, 1)) (k : V E B own cc nL d Q (pc + 1) (lv) (.long (x + y) :: st) (σ)) : V E B own cc nL d Q pc lv (.long y :: .long x :: st) σ := fun ok H locs ls hI hl => lv_ladd ok.1 ok.2.1 hd (k ok H locs ls hI hl)
theorem V_lmul {x y : Int64} (hd : decode cc pc = .ok (.lmul, 1)) (k : V E B own cc nL d Q (pc + 1) (lv) (.long (x * y) :: st) (σ)) : V E B own cc nL d Q pc lv (.long y :: .long x :: st) σ := fun ok H locs ls hI hl => lv_lmul ok.1 ok.2.1 hd (k ok H locs ls hI hl)
theorem V_land {x y : Int64} (hd : decode cc pc = .ok (.land, 1)) (k : V E B own cc nL d Q (pc + 1) (lv) (.long (x &&& y) :: st) (σ)) : V E B own cc nL d Q pc lv (.long y :: .long x :: st) σ := fun ok H locs ls hI hl => lv_land ok.1 ok.2.1 hd (k ok H locs ls hI hl)
theorem V_lor {x y : Int64} (hd : decode cc pc = .ok (.lor, 1)) (k : V E B own cc nL d Q (pc + 1) (lv) (.long (x ||| y) :: st) (σ)) : V E B own cc nL d Q pc lv (.long y :: .long x :: st) σ := fun ok H locs ls hI hl => lv_lor ok.1 ok.2.1 hd (k ok H locs ls hI hl)
theorem V_ldiv {x y v : Int64} (hd : decode cc pc = .ok (.ldiv, 1)) (hn : ¬ y = 0) (hv : x / y = v) (k : V E B own cc nL d Q (pc + 1) (lv) (.long v :: st) (σ)) : V E B own cc nL d Q pc lv (.long y :: .long x :: st) σ := fun ok H locs ls hI hl => lv_ldiv ok.1 ok.2.1 hd hn (by rw [hv]; exact k ok H locs ls hI hl)
theorem V_lrem {x y v : Int64} (hd : decode cc pc = .ok (.lrem, 1)) (hn : ¬ y = 0) (hv : x - x / y * y = v) (k : V E B own cc nL d Q (pc + 1) (lv) (.long v :: st) (σ)) : V E B own cc nL d Q pc lv (.long y :: .long x :: st) σ := fun ok H locs ls hI hl => lv_lrem ok.1 ok.2.1 hd hn (by rw [hv]; exact k ok H locs ls hI hl)
theorem V_i2l {x : Int32} {v : Int64} (hd : decode cc pc = .ok (.i2l, 1)) (hv : x.toInt64 = v) (k : V E B own cc nL d Q (pc + 1) (lv) (.long v :: st) (σ)) : V E B own cc nL d Q pc lv (.int x :: st) σ := fun ok H locs ls hI hl => lv_i2l ok.1 ok.2.1 hd hv (k ok H locs ls hI hl)
theorem V_l2i {x : Int64} {v : Int32} (hd : decode cc pc = .ok (.l2i, 1)) (hv : x.toInt32 = v) (k : V E B own cc nL d Q (pc + 1) (lv) (.int v :: st) (σ)) : V E B own cc nL d Q pc lv (.long x :: st) σ := fun ok H locs ls hI hl => lv_l2i ok.1 ok.2.1 hd hv (k ok H locs ls hI hl)
theorem V_lushr {x v : Int64} {y : Int32} (hd : decode cc pc = .ok (.lushr, 1)) (hv : (x.toUInt64 >>> (y.toInt64.toUInt64 &&& Int64.toUInt64 63)).toInt64 = v) (k : V E B own cc nL d Q (pc + 1) (lv) (.long v :: st) (σ)) : V E B own cc nL d Q pc lv (.int y :: .long x :: st) σ := fun ok H locs ls hI hl => lv_lushr ok.1 ok.2.1 hd hv (k ok H locs ls hI hl)
theorem V_lshl {x v : Int64} {y : Int32} (hd : decode cc pc = .ok (.lshl, 1)) (hv : x <<< (y.toInt64 &&& 63) = v) (k : V E B own cc nL d Q (pc + 1) (lv) (.long v :: st) (σ)) : V E B own cc nL d Q pc lv (.int y :: .long x :: st) σ := fun ok H locs ls hI hl => lv_lshl ok.1 ok.2.1 hd hv (k ok H locs ls hI hl)
theorem V_lcmp {x y : Int64} (hd : decode cc pc = .ok (.lcmp, 1)) (k : V E B own cc nL d Q (pc + 1) (lv) (.int (lg_cmp x y) :: st) (σ)) : V E B own cc nL d Q pc lv (.long y :: .long x :: st) σ := fun ok H locs ls hI hl => W.lcmp ok.1 ok.2.1 hd (k ok H locs ls hI hl)
theorem V_dup {v : Value} (hd : decode cc pc = .ok (.dup, 1)) (hc : v.category = 1) (k : V E B own cc nL d Q (pc + 1) (lv) (v :: v :: st) (σ)) : V E B own cc nL d Q pc lv (v :: st) σ := fun ok H locs ls hI hl => lv_dup ok.1 ok.2.1 hd hc (k ok H locs ls hI hl)
theorem V_dup2 {u v : Value} (hd : decode cc pc = .ok (.dup2, 1)) (hc : u.category = 1) (hc2 : v.category = 1) (k : V E B own cc nL d Q (pc + 1) (lv) (u :: v :: u :: v :: st) (σ)) : V E B own cc nL d Q pc lv (u :: v :: st) σ := fun ok H locs ls hI hl => lv_dup2_11 ok.1 ok.2.1 hd hc hc2 (k ok H locs ls hI hl)
theorem V_pop {v : Value} (hd : decode cc pc = .ok (.pop, 1)) (hc : v.category = 1) (k : V E B own cc nL d Q (pc + 1) (lv) (st) (σ)) : V E B own cc nL d Q pc lv (v :: st) σ := fun ok H locs ls hI hl => lv_pop ok.1 ok.2.1 hd hc (k ok H locs ls hI hl)
theorem V_null (hd : decode cc pc = .ok (.aconst_null, 1)) (k : V E B own cc nL d Q (pc + 1) (lv) (.null :: st) (σ)) : V E B own cc nL d Q pc lv (st) σ := fun ok H locs ls hI hl => lv_null ok.1 ok.2.1 hd (k ok H locs ls hI hl)
theorem V_ifnull {x : Nat} {off : Int} (hd : decode cc pc = .ok (.ifnull off, 3)) (k : V E B own cc nL d Q (pc + 3) (lv) (st) (σ)) : V E B own cc nL d Q pc lv (.ref x :: st) σ := fun ok H locs ls hI hl => lv_ifnull ok.1 ok.2.1 hd (k ok H locs ls hI hl)
theorem V_ifnullN {off : Int} (tgt : Nat) (hd : decode cc pc = .ok (.ifnull off, 3)) (ht : (pc : Int) + off = (tgt : Int)) (k : V E B own cc nL d Q (tgt) (lv) (st) (σ)) : V E B own cc nL d Q pc lv (.null :: st) σ := fun ok H locs ls hI hl => lv_ifnullN ok.1 ok.2.1 hd ht (k ok H locs ls hI hl)
theorem V_ifnonnull {x : Nat} {off : Int} (tgt : Nat) (hd : decode cc pc = .ok (.ifnonnull off, 3)) (ht : (pc : Int) + off = (tgt : Int)) (k : V E B own cc nL d Q (tgt) (lv) (st) (σ)) : V E B own cc nL d Q pc lv (.ref x :: st) σ := fun ok H locs ls hI hl => lv_ifnonnull ok.1 ok.2.1 hd ht (k ok H locs ls hI hl)
theorem V_ifnonnullN {off : Int} (hd : decode cc pc = .ok (.ifnonnull off, 3)) (k : V E B own cc nL d Q (pc + 3) (lv) (st) (σ)) : V E B own cc nL d Q pc lv (.null :: st) σ := fun ok H locs ls hI hl => lv_ifnonnullN ok.1 ok.2.1 hd (k ok H locs ls hI hl)
theorem V_goto {off : Int} (tgt : Nat) (hd : decode cc pc = .ok (.goto off, 3)) (ht : (pc : Int) + off = (tgt : Int)) (k : V E B own cc nL d Q (tgt) (lv) (st) (σ)) : V E B own cc nL d Q pc lv (st) σ := fun ok H locs ls hI hl => lv_goto ok.1 ok.2.1 hd ht (k ok H locs ls hI hl)
theorem V_icmp_eq {a b : Nat} {off : Int} (tgt : Nat) (hd : decode cc pc = .ok (.if_icmp .eq off, 3)) (ht : (pc : Int) + off = (tgt : Int)) (ha : a < 2 ^ 32) (hb : b < 2 ^ 32) (kt : a = b → V E B own cc nL d Q (tgt) (lv) (st) (σ)) (kf : a ≠ b → V E B own cc nL d Q (pc + 3) (lv) (st) (σ)) : V E B own cc nL d Q pc lv (.int (nI b) :: .int (nI a) :: st) σ := fun ok H locs ls hI hl => lv_icmp_eq ok.1 ok.2.1 hd ht (fun h => kt (by exact (nz_eq ha hb).mp h) ok H locs ls hI hl) (fun h => kf (by exact fun q => h ((nz_eq ha hb).mpr q)) ok H locs ls hI hl)
theorem V_icmp_ne {a b : Nat} {off : Int} (tgt : Nat) (hd : decode cc pc = .ok (.if_icmp .ne off, 3)) (ht : (pc : Int) + off = (tgt : Int)) (ha : a < 2 ^ 32) (hb : b < 2 ^ 32) (kt : a ≠ b → V E B own cc nL d Q (tgt) (lv) (st) (σ)) (kf : a = b → V E B own cc nL d Q (pc + 3) (lv) (st) (σ)) : V E B own cc nL d Q pc lv (.int (nI b) :: .int (nI a) :: st) σ := fun ok H locs ls hI hl => lv_icmp_ne ok.1 ok.2.1 hd ht (fun h => kt (by exact fun q => h ((nz_eq ha hb).mpr q)) ok H locs ls hI hl) (fun h => kf (by exact (nz_eq ha hb).mp h) ok H locs ls hI hl)
theorem V_icmp_lt {a b : Nat} {off : Int} (tgt : Nat) (hd : decode cc pc = .ok (.if_icmp .lt off, 3)) (ht : (pc : Int) + off = (tgt : Int)) (ha : a < 2 ^ 31) (hb : b < 2 ^ 31) (kt : a < b → V E B own cc nL d Q (tgt) (lv) (st) (σ)) (kf : ¬ a < b → V E B own cc nL d Q (pc + 3) (lv) (st) (σ)) : V E B own cc nL d Q pc lv (.int (nI b) :: .int (nI a) :: st) σ := fun ok H locs ls hI hl => lv_icmp_lt ok.1 ok.2.1 hd ht (fun h => kt (by exact (nI_ltI ha hb).mp h) ok H locs ls hI hl) (fun h => kf (by exact fun q => h ((nI_ltI ha hb).mpr q)) ok H locs ls hI hl)
theorem V_icmp_ge {a b : Nat} {off : Int} (tgt : Nat) (hd : decode cc pc = .ok (.if_icmp .ge off, 3)) (ht : (pc : Int) + off = (tgt : Int)) (ha : a < 2 ^ 31) (hb : b < 2 ^ 31) (kt : ¬ a < b → V E B own cc nL d Q (tgt) (lv) (st) (σ)) (kf : a < b → V E B own cc nL d Q (pc + 3) (lv) (st) (σ)) : V E B own cc nL d Q pc lv (.int (nI b) :: .int (nI a) :: st) σ := fun ok H locs ls hI hl => lv_icmp_ge ok.1 ok.2.1 hd ht (fun h => kt (by exact Nat.not_lt.mpr ((nI_leI hb ha).mp h)) ok H locs ls hI hl) (fun h => kf (by exact Nat.not_le.mp (fun q => h ((nI_leI hb ha).mpr q))) ok H locs ls hI hl)
theorem V_icmp_gt {a b : Nat} {off : Int} (tgt : Nat) (hd : decode cc pc = .ok (.if_icmp .gt off, 3)) (ht : (pc : Int) + off = (tgt : Int)) (ha : a < 2 ^ 31) (hb : b < 2 ^ 31) (kt : b < a → V E B own cc nL d Q (tgt) (lv) (st) (σ)) (kf : ¬ b < a → V E B own cc nL d Q (pc + 3) (lv) (st) (σ)) : V E B own cc nL d Q pc lv (.int (nI b) :: .int (nI a) :: st) σ := fun ok H locs ls hI hl => lv_icmp_gt ok.1 ok.2.1 hd ht (fun h => kt (by exact (nI_ltI hb ha).mp h) ok H locs ls hI hl) (fun h => kf (by exact fun q => h ((nI_ltI hb ha).mpr q)) ok H locs ls hI hl)
theorem V_icmp_le {a b : Nat} {off : Int} (tgt : Nat) (hd : decode cc pc = .ok (.if_icmp .le off, 3)) (ht : (pc : Int) + off = (tgt : Int)) (ha : a < 2 ^ 31) (hb : b < 2 ^ 31) (kt : ¬ b < a → V E B own cc nL d Q (tgt) (lv) (st) (σ)) (kf : b < a → V E B own cc nL d Q (pc + 3) (lv) (st) (σ)) : V E B own cc nL d Q pc lv (.int (nI b) :: .int (nI a) :: st) σ := fun ok H locs ls hI hl => lv_icmp_le ok.1 ok.2.1 hd ht (fun h => kt (by exact Nat.not_lt.mpr ((nI_leI ha hb).mp h)) ok H locs ls hI hl) (fun h => kf (by exact Nat.not_le.mp (fun q => h ((nI_leI ha hb).mpr q))) ok H locs ls hI hl)
theorem V_icmpR_eq {x y : Int32} {off : Int} (tgt : Nat) (hd : decode cc pc = .ok (.if_icmp .eq off, 3)) (ht : (pc : Int) + off = (tgt : Int)) (kt : x = y → V E B own cc nL d Q (tgt) (lv) (st) (σ)) (kf : ¬ x = y → V E B own cc nL d Q (pc + 3) (lv) (st) (σ)) : V E B own cc nL d Q pc lv (.int y :: .int x :: st) σ := fun ok H locs ls hI hl => lv_icmp_eq ok.1 ok.2.1 hd ht (fun h => kt h ok H locs ls hI hl) (fun h => kf h ok H locs ls hI hl)
theorem V_ifR_eq {x : Int32} {off : Int} (tgt : Nat) (hd : decode cc pc = .ok (.ifCond .eq off, 3)) (ht : (pc : Int) + off = (tgt : Int)) (kt : x = 0 → V E B own cc nL d Q (tgt) (lv) (st) (σ)) (kf : ¬ x = 0 → V E B own cc nL d Q (pc + 3) (lv) (st) (σ)) : V E B own cc nL d Q pc lv (.int x :: st) σ := fun ok H locs ls hI hl => lv_if_eq ok.1 ok.2.1 hd ht (fun h => kt h ok H locs ls hI hl) (fun h => kf h ok H locs ls hI hl)
theorem V_icmpR_ne {x y : Int32} {off : Int} (tgt : Nat) (hd : decode cc pc = .ok (.if_icmp .ne off, 3)) (ht : (pc : Int) + off = (tgt : Int)) (kt : ¬ x = y → V E B own cc nL d Q (tgt) (lv) (st) (σ)) (kf : x = y → V E B own cc nL d Q (pc + 3) (lv) (st) (σ)) : V E B own cc nL d Q pc lv (.int y :: .int x :: st) σ := fun ok H locs ls hI hl => lv_icmp_ne ok.1 ok.2.1 hd ht (fun h => kt h ok H locs ls hI hl) (fun h => kf h ok H locs ls hI hl)
theorem V_ifR_ne {x : Int32} {off : Int} (tgt : Nat) (hd : decode cc pc = .ok (.ifCond .ne off, 3)) (ht : (pc : Int) + off = (tgt : Int)) (kt : ¬ x = 0 → V E B own cc nL d Q (tgt) (lv) (st) (σ)) (kf : x = 0 → V E B own cc nL d Q (pc + 3) (lv) (st) (σ)) : V E B own cc nL d Q pc lv (.int x :: st) σ := fun ok H locs ls hI hl => lv_if_ne ok.1 ok.2.1 hd ht (fun h => kt h ok H locs ls hI hl) (fun h => kf h ok H locs ls hI hl)
theorem V_icmpR_lt {x y : Int32} {off : Int} (tgt : Nat) (hd : decode cc pc = .ok (.if_icmp .lt off, 3)) (ht : (pc : Int) + off = (tgt : Int)) (kt : x < y → V E B own cc nL d Q (tgt) (lv) (st) (σ)) (kf : ¬ x < y → V E B own cc nL d Q (pc + 3) (lv) (st) (σ)) : V E B own cc nL d Q pc lv (.int y :: .int x :: st) σ := fun ok H locs ls hI hl => lv_icmp_lt ok.1 ok.2.1 hd ht (fun h => kt h ok H locs ls hI hl) (fun h => kf h ok H locs ls hI hl)
theorem V_ifR_lt {x : Int32} {off : Int} (tgt : Nat) (hd : decode cc pc = .ok (.ifCond .lt off, 3)) (ht : (pc : Int) + off = (tgt : Int)) (kt : x < 0 → V E B own cc nL d Q (tgt) (lv) (st) (σ)) (kf : ¬ x < 0 → V E B own cc nL d Q (pc + 3) (lv) (st) (σ)) : V E B own cc nL d Q pc lv (.int x :: st) σ := fun ok H locs ls hI hl => lv_if_lt ok.1 ok.2.1 hd ht (fun h => kt h ok H locs ls hI hl) (fun h => kf h ok H locs ls hI hl)
theorem V_icmpR_ge {x y : Int32} {off : Int} (tgt : Nat) (hd : decode cc pc = .ok (.if_icmp .ge off, 3)) (ht : (pc : Int) + off = (tgt : Int)) (kt : y ≤ x → V E B own cc nL d Q (tgt) (lv) (st) (σ)) (kf : ¬ y ≤ x → V E B own cc nL d Q (pc + 3) (lv) (st) (σ)) : V E B own cc nL d Q pc lv (.int y :: .int x :: st) σ := fun ok H locs ls hI hl => lv_icmp_ge ok.1 ok.2.1 hd ht (fun h => kt h ok H locs ls hI hl) (fun h => kf h ok H locs ls hI hl)
theorem V_ifR_ge {x : Int32} {off : Int} (tgt : Nat) (hd : decode cc pc = .ok (.ifCond .ge off, 3)) (ht : (pc : Int) + off = (tgt : Int)) (kt : 0 ≤ x → V E B own cc nL d Q (tgt) (lv) (st) (σ)) (kf : ¬ 0 ≤ x → V E B own cc nL d Q (pc + 3) (lv) (st) (σ)) : V E B own cc nL d Q pc lv (.int x :: st) σ := fun ok H locs ls hI hl => lv_if_ge ok.1 ok.2.1 hd ht (fun h => kt h ok H locs ls hI hl) (fun h => kf h ok H locs ls hI hl)
theorem V_icmpR_gt {x y : Int32} {off : Int} (tgt : Nat) (hd : decode cc pc = .ok (.if_icmp .gt off, 3)) (ht : (pc : Int) + off = (tgt : Int)) (kt : y < x → V E B own cc nL d Q (tgt) (lv) (st) (σ)) (kf : ¬ y < x → V E B own cc nL d Q (pc + 3) (lv) (st) (σ)) : V E B own cc nL d Q pc lv (.int y :: .int x :: st) σ := fun ok H locs ls hI hl => lv_icmp_gt ok.1 ok.2.1 hd ht (fun h => kt h ok H locs ls hI hl) (fun h => kf h ok H locs ls hI hl)
theorem V_ifR_gt {x : Int32} {off : Int} (tgt : Nat) (hd : decode cc pc = .ok (.ifCond .gt off, 3)) (ht : (pc : Int) + off = (tgt : Int)) (kt : 0 < x → V E B own cc nL d Q (tgt) (lv) (st) (σ)) (kf : ¬ 0 < x → V E B own cc nL d Q (pc + 3) (lv) (st) (σ)) : V E B own cc nL d Q pc lv (.int x :: st) σ := fun ok H locs ls hI hl => lv_if_gt ok.1 ok.2.1 hd ht (fun h => kt h ok H locs ls hI hl) (fun h => kf h ok H locs ls hI hl)
theorem V_icmpR_le {x y : Int32} {off : Int} (tgt : Nat) (hd : decode cc pc = .ok (.if_icmp .le off, 3)) (ht : (pc : Int) + off = (tgt : Int)) (kt : x ≤ y → V E B own cc nL d Q (tgt) (lv) (st) (σ)) (kf : ¬ x ≤ y → V E B own cc nL d Q (pc + 3) (lv) (st) (σ)) : V E B own cc nL d Q pc lv (.int y :: .int x :: st) σ := fun ok H locs ls hI hl => lv_icmp_le ok.1 ok.2.1 hd ht (fun h => kt h ok H locs ls hI hl) (fun h => kf h ok H locs ls hI hl)
theorem V_ifR_le {x : Int32} {off : Int} (tgt : Nat) (hd : decode cc pc = .ok (.ifCond .le off, 3)) (ht : (pc : Int) + off = (tgt : Int)) (kt : x ≤ 0 → V E B own cc nL d Q (tgt) (lv) (st) (σ)) (kf : ¬ x ≤ 0 → V E B own cc nL d Q (pc + 3) (lv) (st) (σ)) : V E B own cc nL d Q pc lv (.int x :: st) σ := fun ok H locs ls hI hl => lv_if_le ok.1 ok.2.1 hd ht (fun h => kt h ok H locs ls hI hl) (fun h => kf h ok H locs ls hI hl)
theorem nz_z {a : Nat} (ha : a < 2 ^ 32) : (nI a = 0 ↔ a = 0) ∧ (nI a < 0 ↔ 2 ^ 31 ≤ a) ∧ (0 ≤ nI a ↔ a < 2 ^ 31) ∧ (0 < nI a ↔ 0 < a ∧ a < 2 ^ 31) ∧ (nI a ≤ 0 ↔ a = 0 ∨ 2 ^ 31 ≤ a) := by
  have e := nz_eq ha (b := 0) (by decide)
  rw [nI_0] at e
  refine ⟨e, nz_lt0 ha, ?_, ?_, ?_⟩
  · rw [Int32.le_iff_toInt_le, Int32.toInt_zero]
    by_cases h : a < 2 ^ 31
    · rw [nI_toInt h]; omega
    · rw [nz_neg (by omega) ha]; omega
  · rw [Int32.lt_iff_toInt_lt, Int32.toInt_zero]
    by_cases h : a < 2 ^ 31
    · rw [nI_toInt h]; omega
    · rw [nz_neg (by omega) ha]; omega
  · rw [Int32.le_iff_toInt_le, Int32.toInt_zero]
    by_cases h : a < 2 ^ 31
    · rw [nI_toInt h]; omega
    · rw [nz_neg (by omega) ha]; omega
theorem V_if_eq {a : Nat} {off : Int} (tgt : Nat) (hd : decode cc pc = .ok (.ifCond .eq off, 3)) (ht : (pc : Int) + off = (tgt : Int)) (ha : a < 2 ^ 32) (kt : a = 0 → V E B own cc nL d Q (tgt) (lv) (st) (σ)) (kf : a ≠ 0 → V E B own cc nL d Q (pc + 3) (lv) (st) (σ)) : V E B own cc nL d Q pc lv (.int (nI a) :: st) σ := fun ok H locs ls hI hl => lv_if_eq ok.1 ok.2.1 hd ht (fun h => kt (by have z := nz_z ha; simp only [z, ← Int32.not_le, ← Int32.not_lt, gt_iff_lt, ge_iff_le] at h; omega) ok H locs ls hI hl) (fun h => kf (by have z := nz_z ha; simp only [z, gt_iff_lt, ge_iff_le] at h; omega) ok H locs ls hI hl)
theorem V_if_ne {a : Nat} {off : Int} (tgt : Nat) (hd : decode cc pc = .ok (.ifCond .ne off, 3)) (ht : (pc : Int) + off = (tgt : Int)) (ha : a < 2 ^ 32) (kt : a ≠ 0 → V E B own cc nL d Q (tgt) (lv) (st) (σ)) (kf : a = 0 → V E B own cc nL d Q (pc + 3) (lv) (st) (σ)) : V E B own cc nL d Q pc lv (.int (nI a) :: st) σ := fun ok H locs ls hI hl => lv_if_ne ok.1 ok.2.1 hd ht (fun h => kt (by have z := nz_z ha; simp only [z, ← Int32.not_le, ← Int32.not_lt, gt_iff_lt, ge_iff_le] at h; omega) ok H locs ls hI hl) (fun h => kf (by have z := nz_z ha; simp only [z, gt_iff_lt, ge_iff_le] at h; omega) ok H locs ls hI hl)
theorem V_if_lt {a : Nat} {off : Int} (tgt : Nat) (hd : decode cc pc = .ok (.ifCond .lt off, 3)) (ht : (pc : Int) + off = (tgt : Int)) (ha : a < 2 ^ 32) (kt : 2 ^ 31 ≤ a → V E B own cc nL d Q (tgt) (lv) (st) (σ)) (kf : a < 2 ^ 31 → V E B own cc nL d Q (pc + 3) (lv) (st) (σ)) : V E B own cc nL d Q pc lv (.int (nI a) :: st) σ := fun ok H locs ls hI hl => lv_if_lt ok.1 ok.2.1 hd ht (fun h => kt (by have z := nz_z ha; simp only [z, ← Int32.not_le, ← Int32.not_lt, gt_iff_lt, ge_iff_le] at h; omega) ok H locs ls hI hl) (fun h => kf (by have z := nz_z ha; simp only [z, gt_iff_lt, ge_iff_le] at h; omega) ok H locs ls hI hl)
theorem V_if_ge {a : Nat} {off : Int} (tgt : Nat) (hd : decode cc pc = .ok (.ifCond .ge off, 3)) (ht : (pc : Int) + off = (tgt : Int)) (ha : a < 2 ^ 32) (kt : a < 2 ^ 31 → V E B own cc nL d Q (tgt) (lv) (st) (σ)) (kf : 2 ^ 31 ≤ a → V E B own cc nL d Q (pc + 3) (lv) (st) (σ)) : V E B own cc nL d Q pc lv (.int (nI a) :: st) σ := fun ok H locs ls hI hl => lv_if_ge ok.1 ok.2.1 hd ht (fun h => kt (by have z := nz_z ha; simp only [z, ← Int32.not_le, ← Int32.not_lt, gt_iff_lt, ge_iff_le] at h; omega) ok H locs ls hI hl) (fun h => kf (by have z := nz_z ha; simp only [z, gt_iff_lt, ge_iff_le] at h; omega) ok H locs ls hI hl)
theorem V_if_gt {a : Nat} {off : Int} (tgt : Nat) (hd : decode cc pc = .ok (.ifCond .gt off, 3)) (ht : (pc : Int) + off = (tgt : Int)) (ha : a < 2 ^ 32) (kt : 0 < a ∧ a < 2 ^ 31 → V E B own cc nL d Q (tgt) (lv) (st) (σ)) (kf : a = 0 ∨ 2 ^ 31 ≤ a → V E B own cc nL d Q (pc + 3) (lv) (st) (σ)) : V E B own cc nL d Q pc lv (.int (nI a) :: st) σ := fun ok H locs ls hI hl => lv_if_gt ok.1 ok.2.1 hd ht (fun h => kt (by have z := nz_z ha; simp only [z, ← Int32.not_le, ← Int32.not_lt, gt_iff_lt, ge_iff_le] at h; omega) ok H locs ls hI hl) (fun h => kf (by have z := nz_z ha; simp only [z, gt_iff_lt, ge_iff_le] at h; omega) ok H locs ls hI hl)
theorem V_if_le {a : Nat} {off : Int} (tgt : Nat) (hd : decode cc pc = .ok (.ifCond .le off, 3)) (ht : (pc : Int) + off = (tgt : Int)) (ha : a < 2 ^ 32) (kt : a = 0 ∨ 2 ^ 31 ≤ a → V E B own cc nL d Q (tgt) (lv) (st) (σ)) (kf : 0 < a ∧ a < 2 ^ 31 → V E B own cc nL d Q (pc + 3) (lv) (st) (σ)) : V E B own cc nL d Q pc lv (.int (nI a) :: st) σ := fun ok H locs ls hI hl => lv_if_le ok.1 ok.2.1 hd ht (fun h => kt (by have z := nz_z ha; simp only [z, ← Int32.not_le, ← Int32.not_lt, gt_iff_lt, ge_iff_le] at h; omega) ok H locs ls hI hl) (fun h => kf (by have z := nz_z ha; simp only [z, gt_iff_lt, ge_iff_le] at h; omega) ok H locs ls hI hl)
theorem nz_s {a b : Nat} (ha : a < 2 ^ 32) (hb : b < 2 ^ 31) : (nI a < nI b ↔ (2 ^ 31 ≤ a ∨ a < b)) ∧ (nI b ≤ nI a ↔ a < 2 ^ 31 ∧ b ≤ a) ∧ (nI b < nI a ↔ a < 2 ^ 31 ∧ b < a) ∧ (nI a ≤ nI b ↔ 2 ^ 31 ≤ a ∨ a ≤ b) := by
  refine ⟨nz_lt ha hb, ?_, ?_, nz_le ha hb⟩
  · rw [Int32.le_iff_toInt_le, nI_toInt hb]
    by_cases h : a < 2 ^ 31
    · rw [nI_toInt h]; omega
    · rw [nz_neg (by omega) ha]; omega
  · rw [Int32.lt_iff_toInt_lt, nI_toInt hb]
    by_cases h : a < 2 ^ 31
    · rw [nI_toInt h]; omega
    · rw [nz_neg (by omega) ha]; omega
theorem V_icmpS_lt {a b : Nat} {off : Int} (tgt : Nat) (hd : decode cc pc = .ok (.if_icmp .lt off, 3)) (ht : (pc : Int) + off = (tgt : Int)) (ha : a < 2 ^ 32) (hb : b < 2 ^ 31) (kt : 2 ^ 31 ≤ a ∨ a < b → V E B own cc nL d Q (tgt) (lv) (st) (σ)) (kf : a < 2 ^ 31 ∧ b ≤ a → V E B own cc nL d Q (pc + 3) (lv) (st) (σ)) : V E B own cc nL d Q pc lv (.int (nI b) :: .int (nI a) :: st) σ := fun ok H locs ls hI hl => lv_icmp_lt ok.1 ok.2.1 hd ht (fun h => kt (by have z := nz_s ha hb; simp only [z, gt_iff_lt, ge_iff_le] at h; omega) ok H locs ls hI hl) (fun h => kf (by have z := nz_s ha hb; simp only [z, gt_iff_lt, ge_iff_le] at h; omega) ok H locs ls hI hl)
theorem V_icmpS_ge {a b : Nat} {off : Int} (tgt : Nat) (hd : decode cc pc = .ok (.if_icmp .ge off, 3)) (ht : (pc : Int) + off = (tgt : Int)) (ha : a < 2 ^ 32) (hb : b < 2 ^ 31) (kt : a < 2 ^ 31 ∧ b ≤ a → V E B own cc nL d Q (tgt) (lv) (st) (σ)) (kf : 2 ^ 31 ≤ a ∨ a < b → V E B own cc nL d Q (pc + 3) (lv) (st) (σ)) : V E B own cc nL d Q pc lv (.int (nI b) :: .int (nI a) :: st) σ := fun ok H locs ls hI hl => lv_icmp_ge ok.1 ok.2.1 hd ht (fun h => kt (by have z := nz_s ha hb; simp only [z, gt_iff_lt, ge_iff_le] at h; omega) ok H locs ls hI hl) (fun h => kf (by have z := nz_s ha hb; simp only [z, gt_iff_lt, ge_iff_le] at h; omega) ok H locs ls hI hl)
theorem V_icmpS_gt {a b : Nat} {off : Int} (tgt : Nat) (hd : decode cc pc = .ok (.if_icmp .gt off, 3)) (ht : (pc : Int) + off = (tgt : Int)) (ha : a < 2 ^ 32) (hb : b < 2 ^ 31) (kt : a < 2 ^ 31 ∧ b < a → V E B own cc nL d Q (tgt) (lv) (st) (σ)) (kf : 2 ^ 31 ≤ a ∨ a ≤ b → V E B own cc nL d Q (pc + 3) (lv) (st) (σ)) : V E B own cc nL d Q pc lv (.int (nI b) :: .int (nI a) :: st) σ := fun ok H locs ls hI hl => lv_icmp_gt ok.1 ok.2.1 hd ht (fun h => kt (by have z := nz_s ha hb; simp only [z, gt_iff_lt, ge_iff_le] at h; omega) ok H locs ls hI hl) (fun h => kf (by have z := nz_s ha hb; simp only [z, gt_iff_lt, ge_iff_le] at h; omega) ok H locs ls hI hl)
theorem V_icmpS_le {a b : Nat} {off : Int} (tgt : Nat) (hd : decode cc pc = .ok (.if_icmp .le off, 3)) (ht : (pc : Int) + off = (tgt : Int)) (ha : a < 2 ^ 32) (hb : b < 2 ^ 31) (kt : 2 ^ 31 ≤ a ∨ a ≤ b → V E B own cc nL d Q (tgt) (lv) (st) (σ)) (kf : a < 2 ^ 31 ∧ b < a → V E B own cc nL d Q (pc + 3) (lv) (st) (σ)) : V E B own cc nL d Q pc lv (.int (nI b) :: .int (nI a) :: st) σ := fun ok H locs ls hI hl => lv_icmp_le ok.1 ok.2.1 hd ht (fun h => kt (by have z := nz_s ha hb; simp only [z, gt_iff_lt, ge_iff_le] at h; omega) ok H locs ls hI hl) (fun h => kf (by have z := nz_s ha hb; simp only [z, gt_iff_lt, ge_iff_le] at h; omega) ok H locs ls hI hl)
theorem V_tabK {a m : Nat} {dflt lo hi off : Int} {offs : Array Int} {len : Nat} (tgt : Nat) (hd : decode cc pc = .ok (.tableswitch dflt lo hi offs, len)) (he : a = m) (h1 : ¬ (nI m).toInt < lo) (h2 : ¬ hi < (nI m).toInt) (ho : offs[((nI m).toInt - lo).toNat]? = some off) (ht : (pc : Int) + off = (tgt : Int)) (k : V E B own cc nL d Q (tgt) (lv) (st) (σ)) : V E B own cc nL d Q pc lv (.int (nI a) :: st) σ := fun ok H locs ls hI hl => by
  subst he
  exact lv_tableIn ok.1 ok.2.1 hd h1 h2 ho ht (k ok H locs ls hI hl)
theorem V_tabO {a : Nat} {dflt lo hi : Int} {offs : Array Int} {len : Nat} (tgt : Nat) (hd : decode cc pc = .ok (.tableswitch dflt lo hi offs, len)) (ha : a < 2 ^ 32) (h : a < 2 ^ 31 → (a : Int) < lo ∨ hi < (a : Int)) (hl0 : 0 ≤ lo) (ht : (pc : Int) + dflt = (tgt : Int)) (k : V E B own cc nL d Q (tgt) (lv) (st) (σ)) : V E B own cc nL d Q pc lv (.int (nI a) :: st) σ := fun ok H locs ls hI hl => by
  refine lv_tableOut ok.1 ok.2.1 hd ?_ ht (k ok H locs ls hI hl)
  by_cases h3 : a < 2 ^ 31
  · rw [nI_toInt h3]; exact h h3
  · rw [nz_neg (by omega) ha]; left; omega
theorem cell_i {k n : Nat} (h : kd k = (0, n)) : cellE B σ k = .inl (B.2.1 k, n, .inl (fun i => nI (σ k i))) := by
  unfold cellE
  rw [h]
  rfl
theorem cell_z {k n : Nat} (h : kd k = (1, n)) : cellE B σ k = .inl (B.2.1 k, n, .inl (fun i => nI (σ k i))) := by
  unfold cellE
  rw [h]
  rfl
theorem cell_q {k n : Nat} (h : kd k = (2, n)) : cellE B σ k = .inl (B.2.1 k, n, .inr (.inr (.inr (.inr (fun i => some (B.1 (rT k i))))))) := by
  unfold cellE
  rw [h]
  rfl
theorem pt_e {k i x : Nat} : (fun j => nI (pt σ k i x k j)) = upd (fun j => nI (σ k j)) i (nI x) := by
  funext j
  by_cases h : j = i
  · simp [pt, upd, h]
  · simp [pt, upd, h]
theorem V_iald {k n i : Nat} (h : kd k = (0, n)) (hi : i < n) (hd : decode cc pc = .ok (.iaload, 1)) (kk : V E B own cc nL d Q (pc + 1) (lv) (.int (nI (σ k i)) :: st) (σ)) : V E B own cc nL d Q pc lv (.int (nI i) :: .ref (B.1 k) :: st) σ := fun ok H locs ls hI hl => by
  have hk := kd_lt h (by omega)
  have hn := kd_le k
  rw [h] at hn
  have hn' : n ≤ 448 := hn
  refine va_iald (D := B.2.2) (f := fun i => nI (σ k i)) ok.1 ok.2.1 ok.2.2.2.2.2.1.1 hI.1 k k (by rw [ws_at hk, cell_i h]) (by rw [ty_at hk, tyK, h]; rfl) (vp_in_nI hi (by omega)) hd ?_
  show WE E H locs Q (F0 E.2.1.1 (pc + 1) ls (.int (nI (σ k (nI i).toNatClampNeg)) :: st))
  rw [nI_clamp (by omega)]
  exact kk ok H locs ls hI hl
theorem V_zald {k n i : Nat} (h : kd k = (1, n)) (hi : i < n) (hd : decode cc pc = .ok (.baload, 1)) (kk : V E B own cc nL d Q (pc + 1) (lv) (.int (nI (σ k i)) :: st) (σ)) : V E B own cc nL d Q pc lv (.int (nI i) :: .ref (B.1 k) :: st) σ := fun ok H locs ls hI hl => by
  have hk := kd_lt h (by omega)
  have hn := kd_le k
  rw [h] at hn
  have hn' : n ≤ 448 := hn
  refine va_zald (D := B.2.2) (f := fun i => nI (σ k i)) ok.1 ok.2.1 ok.2.2.2.2.2.1.1 hI.1 k k (by rw [ws_at hk, cell_z h]) (by rw [ty_at hk, tyK, h]; rfl) (vp_in_nI hi (by omega)) hd ?_
  show WE E H locs Q (F0 E.2.1.1 (pc + 1) ls (.int (nI (σ k (nI i).toNatClampNeg)) :: st))
  rw [nI_clamp (by omega)]
  exact kk ok H locs ls hI hl
theorem V_aald {k n i : Nat} (h : kd k = (2, n)) (hi : i < n) (hd : decode cc pc = .ok (.aaload, 1)) (kk : V E B own cc nL d Q (pc + 1) (lv) (.ref (B.1 (rT k i)) :: st) (σ)) : V E B own cc nL d Q pc lv (.int (nI i) :: .ref (B.1 k) :: st) σ := fun ok H locs ls hI hl => by
  have hk := kd_lt h (by omega)
  have hn := kd_le k
  rw [h] at hn
  have hn' : n ≤ 448 := hn
  refine va_aldq (D := B.2.2) (f := fun i => some (B.1 (rT k i))) (C := "PotSchools$Pots") ok.1 ok.2.1 ok.2.2.2.2.2.1.1 hI.1 k k (by rw [ws_at hk, cell_q h]) (by rw [ty_at hk, tyK, h]; rfl) (vp_in_nI hi (by omega)) hd ?_
  show WE E H locs Q (F0 E.2.1.1 (pc + 1) ls (.ref (B.1 (rT k (nI i).toNatClampNeg)) :: st))
  rw [nI_clamp (by omega)]
  exact kk ok H locs ls hI hl
theorem V_alen {k t n : Nat} (h : kd k = (t, n)) (ht : t < 3) (h0 : 0 < t + n) (hd : decode cc pc = .ok (.arraylength, 1)) (kk : V E B own cc nL d Q (pc + 1) (lv) (.int (nI n) :: st) (σ)) : V E B own cc nL d Q pc lv (.ref (B.1 k) :: st) σ := fun ok H locs ls hI hl => by
  have hk := kd_lt h h0
  have : ∃ x : vp_A, x.1 = n ∧ cellE B σ k = .inl (B.2.1 k, x) := by
    match t, ht, h with
    | 0, _, h => exact ⟨_, rfl, cell_i h⟩
    | 1, _, h => exact ⟨_, rfl, cell_z h⟩
    | 2, _, h => exact ⟨_, rfl, cell_q h⟩
  obtain ⟨x, hx, hc⟩ := this
  exact va_alen (D := B.2.2) (v := nI n) ok.1 ok.2.1 ok.2.2.2.2.2.1.1 hI.1 k k (by rw [ws_at hk, hc]) (ty_at hk) (by rw [hx]; rfl) hd (kk ok H locs ls hI hl)
theorem V_iast {k n i x : Nat} (h : kd k = (0, n)) (hi : i < n) (hd : decode cc pc = .ok (.iastore, 1)) (kk : V E B own cc nL d Q (pc + 1) (lv) (st) (pt σ k i x)) : V E B own cc nL d Q pc lv (.int (nI x) :: .int (nI i) :: .ref (B.1 k) :: st) σ := fun ok H locs ls hI hl => by
  have hk := kd_lt h (by omega)
  have hn := kd_le k
  rw [h] at hn
  have hn' : n ≤ 448 := hn
  refine va_iast (D := B.2.2) ok.1 ok.2.1 ok.2.2.2.2.2.1.1 hI.1 (ws_D ok.2.2.2.2.2.1.2.1 σ) hI.2 k k (by rw [ws_at hk, cell_i h]) (by rw [ty_at hk, tyK, h]; rfl) (vp_in_nI hi (by omega)) hd (fun H1 locs1 hP hD hS => ?_)
  rw [nI_clamp (by omega), ws_set (τ := pt σ k i x) (by rw [cell_i h, pt_e]) (fun j hj => cellE_o (pt_o hj))] at hP
  exact kk ok H1 locs1 ls ⟨hP, hS⟩ hl
theorem V_zast {k n i x : Nat} (h : kd k = (1, n)) (hi : i < n) (hx : x < 2) (hd : decode cc pc = .ok (.bastore, 1)) (kk : V E B own cc nL d Q (pc + 1) (lv) (st) (pt σ k i x)) : V E B own cc nL d Q pc lv (.int (nI x) :: .int (nI i) :: .ref (B.1 k) :: st) σ := fun ok H locs ls hI hl => by
  have hk := kd_lt h (by omega)
  have hn := kd_le k
  rw [h] at hn
  have hn' : n ≤ 448 := hn
  have hx2 : vp_nar .boolean (nI x) = nI x := by
    rcases (show x = 0 ∨ x = 1 by omega) with rfl | rfl <;> decide +kernel
  refine va_zast (D := B.2.2) ok.1 ok.2.1 ok.2.2.2.2.2.1.1 hI.1 (ws_D ok.2.2.2.2.2.1.2.1 σ) hI.2 k k (by rw [ws_at hk, cell_z h]) (by rw [ty_at hk, tyK, h]; rfl) (vp_in_nI hi (by omega)) hd (fun H1 locs1 hP hD hS => ?_)
  rw [hx2, nI_clamp (by omega), ws_set (τ := pt σ k i x) (by rw [cell_z h, pt_e]) (fun j hj => cellE_o (pt_o hj))] at hP
  exact kk ok H1 locs1 ls ⟨hP, hS⟩ hl
end RW
