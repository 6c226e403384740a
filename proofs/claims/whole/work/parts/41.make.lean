/-! MAKING: cells that lie side by side, from b on -/
def wl : Nat → List va_E → va_W
  | _, [] => []
  | b, e :: cs => (b, e) :: wl (b + 1) cs
theorem wl_at : ∀ (cs : List va_E) (b i : Nat), (wl b cs)[i]? = (cs[i]?).map (fun e => (b + i, e))
  | [], b, i => by simp [wl]
  | e :: cs, b, 0 => by simp [wl]
  | e :: cs, b, i + 1 => by
    simp only [wl, List.getElem?_cons_succ]
    rw [wl_at cs (b + 1) i, show b + 1 + i = b + (i + 1) by omega]
theorem wl_get {cs : List va_E} {b i : Nat} {e : va_E} (h : cs[i]? = some e) : (wl b cs)[i]? = some (b + i, e) := by rw [wl_at, h]; rfl
theorem wl_app : ∀ (cs ds : List va_E) (b : Nat), wl b (cs ++ ds) = wl b cs ++ wl (b + cs.length) ds
  | [], ds, b => by simp [wl]
  | e :: cs, ds, b => by
    simp only [List.cons_append, wl, List.length_cons]
    rw [wl_app cs ds (b + 1), show b + 1 + cs.length = b + (cs.length + 1) by omega]
theorem wl_set : ∀ (cs : List va_E) (b i : Nat) (e : va_E), (wl b cs).set i (b + i, e) = wl b (cs.set i e)
  | [], b, i, e => by simp [wl]
  | x :: cs, b, 0, e => by simp [wl]
  | x :: cs, b, i + 1, e => by
    simp only [wl, List.set_cons_succ]
    rw [← wl_set cs (b + 1) i e, show b + 1 + i = b + (i + 1) by omega]
theorem wl_len : ∀ (cs : List va_E) (b : Nat), (wl b cs).length = cs.length
  | [], _ => rfl
  | e :: cs, b => by simp only [wl, List.length_cons]; rw [wl_len cs (b + 1)]
theorem wl_of {cs : List va_E} {b i : Nat} {p : Nat × va_E} (h : (wl b cs)[i]? = some p) : p.1 = b + i ∧ i < cs.length := by
  have hi : i < cs.length := by rw [← wl_len cs b]; exact (List.getElem?_eq_some_iff.mp h).1
  rw [wl_at, List.getElem?_eq_getElem hi] at h
  cases h
  exact ⟨rfl, hi⟩
theorem wl_D (cs : List va_E) (b : Nat) : va_D (fun q => b ≤ q) (wl b cs) :=
  ⟨fun i j p q hp hq e => by have h1 := (wl_of hp).1; have h2 := (wl_of hq).1; omega, fun k q hq => by have h1 := (wl_of hq).1; show b ≤ q.1; omega⟩
theorem wl_new {D : va_G} {cs : List va_E} {b q : Nat} {e : va_E} {H : Heap} (hP : va_P D vwCl (wl b cs ++ [(q, e)]) H) (hD : va_D (fun q => b ≤ q) (wl b cs ++ [(q, e)])) (h : H.size ≤ b + cs.length + 1) : q = b + cs.length := by
  have hn : (wl b cs ++ [(q, e)])[cs.length]? = some (q, e) := by
    rw [List.getElem?_append_right (by rw [wl_len]; exact Nat.le_refl _), wl_len, Nat.sub_self]
    rfl
  have h1 : q < H.size := (hP _ _ hn).lt
  have h2 : b ≤ q := hD.2 _ _ hn
  rcases Nat.lt_or_ge q (b + cs.length) with hq | hq
  · exfalso
    have hi : q - b < cs.length := by omega
    have hg : (wl b cs ++ [(q, e)])[q - b]? = some (b + (q - b), cs[q - b]) := by
      rw [List.getElem?_append_left (by rw [wl_len]; exact hi)]
      exact wl_get (List.getElem?_eq_getElem hi)
    have := hD.1 _ _ _ _ hg hn (show b + (q - b) = q by omega)
    omega
  · omega
/-- what is known of the classes while cells are made -/
abbrev Zk : Type := va_G × ClassId × ClassId × ClassId
def tyZ (Z : Zk) : List (ClassId × FieldType) := [(Z.2.1, .int), (Z.2.2.1, .boolean), (Z.2.2.2, .object RX3)]
def nestN : List Cond := [.methodLinkNest RX4 15 yX0_init RX4, .methodLinkNest RX4 25 yX3_init RX4, .methodLinkNest RX4 49 yX1_init RX4, .methodLinkNest RX2 17 yX3_init RX4]
def KT (Z : Zk) (U : State) : Prop := va_K Z.1 vwCl (tyZ Z) U ∧ va_AO RX3 U ∧ ∀ w ∈ nestN, va_Nw w U
theorem nestN_is {w : Cond} (hw : w ∈ nestN) : ∃ a i x g, w = .methodLinkNest a i x g := by
  simp only [nestN, List.mem_cons, List.not_mem_nil, or_false] at hw
  rcases hw with rfl | rfl | rfl | rfl <;> exact ⟨_, _, _, _, rfl⟩
theorem KT.moved {Z : Zk} {u U : State} (hW : u.WarmedH U.vm) (h : KT Z u) : KT Z U := by
  refine ⟨va_K.moved hW.alike h.1, va_AO.moved hW.alike h.2.1, fun w hw => ?_⟩
  have hz := h.2.2 w hw
  obtain ⟨a, i, x, g, rfl⟩ := nestN_is hw
  exact va_Nw.warmM hW hz
theorem KT.calling {Z : Zk} {U : State} {g : JFrame} {mk : MethodId} {a : Array Value} (h : KT Z U) : KT Z (U.calling g mk a) := by
  refine ⟨va_K.moved (u := U) (U := U.calling g mk a) (Vm.Alike.refl U.vm) h.1, va_AO.moved (u := U) (U := U.calling g mk a) (Vm.Alike.refl U.vm) h.2.1, fun w hw => ?_⟩
  have hz := h.2.2 w hw
  obtain ⟨b, i, x, f, rfl⟩ := nestN_is hw
  exact va_Nw.same rfl (u := U) (U := U.calling g mk a) rfl hz
def WU (E : EE) (H : Heap) (locs : List Loc) (ca sl : Nat) (Q : State → Prop) (g : JFrame) : Prop := W E.1.1 E.1.2.1 E.1.2.2.1 E.1.2.2.2.1 E.1.2.2.2.2 E.2.1.1 E.2.1.2.1 E.2.1.2.2.1 E.2.1.2.2.2.1 E.2.1.2.2.2.2 H locs ca sl Q g
def UOk (E : EE) (Z : Zk) (own : String) (cc : ByteArray) (nL d mc ms b : Nat) : Prop :=
  E.1.1.tables.exec = Jvm.exec ∧ E.2.1.2.2.2.2.code = cc ∧ E.2.1.2.2.2.2.maxLocals = nL ∧ E.1.2.2.2.2.vm.findClass own = some E.2.1.1.cls ∧ (∀ w ∈ gw, w.before E.2.1.2.1 E.1.2.2.2.2 = true) ∧ KT Z E.1.2.2.2.2 ∧ d ≤ E.1.2.2.2.1.frames ∧ 64 * d ≤ E.1.2.2.2.1.locals ∧ mc ≤ E.1.2.2.2.1.cells ∧ ms ≤ E.1.2.2.2.1.slots ∧ b ≤ E.1.2.2.2.2.heap.size
/-- from here, with these cells made, the machine comes to Q -/
def U (E : EE) (Z : Zk) (own : String) (cc : ByteArray) (nL d mc ms b : Nat) (Q : State → Prop) (pc : Nat) (lv : List (Option Value)) (st : List Value) (cs : List va_E) (ca sl : Nat) : Prop :=
  UOk E Z own cc nL d mc ms b → ∀ (H : Heap) (locs : List Loc) (ls : Array Slot), va_P Z.1 vwCl (wl b cs) H → va_S (fun q => b ≤ q) E.1.2.2.2.2.heap H locs → E.1.2.2.2.2.heap.size + ca = b + cs.length → LV ls nL lv → WU E H locs ca sl Q (F0 E.2.1.1 pc ls st)
theorem WU.sized {E : EE} {H : Heap} {locs : List Loc} {ca sl : Nat} {Q : State → Prop} {g : JFrame} (k : H.size ≤ E.1.2.2.2.2.heap.size + ca → WU E H locs ca sl Q g) : WU E H locs ca sl Q g := fun T hT X => k (by have h := X.same.2.2.1; rw [← hT]; exact h) T hT X
section UR
variable {E : EE} {Z : Zk} {own : String} {cc : ByteArray} {nL d mc ms b : Nat} {Q : State → Prop} {pc : Nat} {lv : List (Option Value)} {st : List Value} {cs cs2 : List va_E} {ca sl : Nat}
theorem U_aload_n {i : Fin 4} {x : Nat} (hd : decode cc pc = .ok (.aload_n i, 1)) (hx : lv[(i : Nat)]? = some (some (.ref x))) (k : U E Z own cc nL d mc ms b Q (pc + 1) (lv) (.ref x :: st) cs ca sl) : U E Z own cc nL d mc ms b Q pc lv (st) cs ca sl := fun ok H locs ls hP hS hz hl => lv_aload_n ok.1 ok.2.1 hd rfl (hl.2.2 _ _ hx) (k ok H locs ls hP hS hz hl)
theorem U_iload_n {i : Fin 4} {x : Int32} (hd : decode cc pc = .ok (.iload_n i, 1)) (hx : lv[(i : Nat)]? = some (some (.int x))) (k : U E Z own cc nL d mc ms b Q (pc + 1) (lv) (.int x :: st) cs ca sl) : U E Z own cc nL d mc ms b Q pc lv (st) cs ca sl := fun ok H locs ls hP hS hz hl => lv_iload_n ok.1 ok.2.1 hd rfl (hl.2.2 _ _ hx) (k ok H locs ls hP hS hz hl)
theorem U_iconst {n : Int} (m : Nat) (hd : decode cc pc = .ok (.iconst n, 1)) (hv : Int32.ofInt n = nI m) (k : U E Z own cc nL d mc ms b Q (pc + 1) (lv) (.int (nI m) :: st) cs ca sl) : U E Z own cc nL d mc ms b Q pc lv (st) cs ca sl := fun ok H locs ls hP hS hz hl => lv_iconst ok.1 ok.2.1 hd hv (k ok H locs ls hP hS hz hl)
theorem U_bipush {n : Int} (m : Nat) (hd : decode cc pc = .ok (.bipush n, 2)) (hv : (Int8.ofInt n).toInt32 = nI m) (k : U E Z own cc nL d mc ms b Q (pc + 2) (lv) (.int (nI m) :: st) cs ca sl) : U E Z own cc nL d mc ms b Q pc lv (st) cs ca sl := fun ok H locs ls hP hS hz hl => lv_bipush ok.1 ok.2.1 hd hv (k ok H locs ls hP hS hz hl)
theorem U_sipush {n : Int} (m : Nat) (hd : decode cc pc = .ok (.sipush n, 3)) (hv : (Int16.ofInt n).toInt32 = nI m) (k : U E Z own cc nL d mc ms b Q (pc + 3) (lv) (.int (nI m) :: st) cs ca sl) : U E Z own cc nL d mc ms b Q pc lv (st) cs ca sl := fun ok H locs ls hP hS hz hl => lv_sipush ok.1 ok.2.1 hd hv (k ok H locs ls hP hS hz hl)
theorem U_dup {v : Value} (hd : decode cc pc = .ok (.dup, 1)) (hc : v.category = 1) (k : U E Z own cc nL d mc ms b Q (pc + 1) (lv) (v :: v :: st) cs ca sl) : U E Z own cc nL d mc ms b Q pc lv (v :: st) cs ca sl := fun ok H locs ls hP hS hz hl => lv_dup ok.1 ok.2.1 hd hc (k ok H locs ls hP hS hz hl)
theorem U_istore_n {i : Fin 4} {x : Int32} (hd : decode cc pc = .ok (.istore_n i, 1)) (hn : (i : Nat) < nL) (hk : okS lv i = true) (k : U E Z own cc nL d mc ms b Q (pc + 1) (lv.set i (some (.int x))) (st) cs ca sl) : U E Z own cc nL d mc ms b Q pc lv (.int x :: st) cs ca sl := fun ok H locs ls hP hS hz hl => lv_istore_n ok.1 ok.2.1 hd rfl hl.has hn rfl (fun ls' h' => k ok H locs ls' hP hS hz (LV.st1 h' hk))
theorem U_astore_n {i : Fin 4} {x : Nat} (hd : decode cc pc = .ok (.astore_n i, 1)) (hn : (i : Nat) < nL) (hk : okS lv i = true) (k : U E Z own cc nL d mc ms b Q (pc + 1) (lv.set i (some (.ref x))) (st) cs ca sl) : U E Z own cc nL d mc ms b Q pc lv (.ref x :: st) cs ca sl := fun ok H locs ls hP hS hz hl => lv_astore_n ok.1 ok.2.1 hd rfl hl.has hn rfl (fun ls' h' => k ok H locs ls' hP hS hz (LV.st1 h' hk))
theorem U_goto {off : Int} (tgt : Nat) (hd : decode cc pc = .ok (.goto off, 3)) (ht : (pc : Int) + off = (tgt : Int)) (k : U E Z own cc nL d mc ms b Q (tgt) (lv) (st) cs ca sl) : U E Z own cc nL d mc ms b Q pc lv (st) cs ca sl := fun ok H locs ls hP hS hz hl => lv_goto ok.1 ok.2.1 hd ht (k ok H locs ls hP hS hz hl)
theorem U_iinc {i a : Nat} {n : Int} (m : Nat) (hd : decode cc pc = .ok (.iinc i n, 3)) (hv : Int32.ofInt n = nI m) (hx : lv[i]? = some (some (.int (nI a)))) (hn : i < nL) (hk : okS lv i = true) (k : U E Z own cc nL d mc ms b Q (pc + 3) (lv.set i (some (.int (nI (a + m))))) st cs ca sl) : U E Z own cc nL d mc ms b Q pc lv st cs ca sl := fun ok H locs ls hP hS hz hl => by
  obtain ⟨j, hj⟩ := List.getElem?_of_mem (asc_mem.mpr hx)
  exact lv_iinc ok.1 ok.2.1 hd hl.has hj (by rw [hv, nI_add]) hn rfl (fun ls' h' => k ok H locs ls' hP hS hz (LV.st1 h' hk))
theorem U_icmp_ge {x y : Int32} {off : Int} (tgt : Nat) (hd : decode cc pc = .ok (.if_icmp .ge off, 3)) (ht : (pc : Int) + off = (tgt : Int)) (kt : y ≤ x → U E Z own cc nL d mc ms b Q tgt lv st cs ca sl) (kf : ¬ y ≤ x → U E Z own cc nL d mc ms b Q (pc + 3) lv st cs ca sl) : U E Z own cc nL d mc ms b Q pc lv (.int y :: .int x :: st) cs ca sl := fun ok H locs ls hP hS hz hl => lv_icmp_ge ok.1 ok.2.1 hd ht (fun h => kt h ok H locs ls hP hS hz hl) (fun h => kf h ok H locs ls hP hS hz hl)
theorem U_new {ci N idx : Nat} {C : String} {T : u_T} (fs : List Value) (ty : Nat → FieldType) (hin : ∀ w ∈ u_ws C T N, w ∈ gw) (hty : ∀ k, k < N → parseFieldDescriptor (T k).2.2.1 = some (ty k)) (hcl : Cond.classLink own idx C ∈ gw) (hinst : Cond.instantiable C N ∈ gw) (hini : Cond.initialized C ∈ gw) (hc : vwCl[ci]? = some (C, T, N)) (hfs : ∀ j, j < N → defaultValue (ty j) = vp_V fs j) (n0 : Nat) (hn0 : cs.length = n0) (hd : decode cc pc = .ok (.new idx, 3)) (h1 : ca + 1 ≤ mc) (h2 : sl + N ≤ ms)
    (hcs : cs ++ [.inr (ci, fs)] = cs2) (k : U E Z own cc nL d mc ms b Q (pc + 3) lv (.ref (b + n0) :: st) cs2 (ca + 1) (sl + N)) : U E Z own cc nL d mc ms b Q pc lv st cs ca sl := by
  intro ok H locs ls hP hS hz hl
  have ok' := ok
  subst hn0
  subst hcs
  obtain ⟨o1, o2, o3, o4, o5, o6, o7, o8, o9, o10, o11⟩ := ok'
  refine va_new (D := Z.1) (fs := fs) (ci := ci) o1 o2 o5 hin ty hty o4 (o5 _ hcl) (o5 _ hinst) (o5 _ hini) o6.1 hP (wl_D cs b) hS (fun q hq => Nat.le_trans o11 hq) hc hfs (Nat.le_trans h1 o9) (Nat.le_trans h2 o10) hd (fun q H1 hP1 hD1 hS1 => ?_)
  refine WU.sized (E := E) fun hsz => ?_
  have hq : q = b + cs.length := wl_new hP1 hD1 (by omega)
  subst hq
  exact k ok H1 locs ls (by rw [wl_app]; exact hP1) hS1 (by rw [List.length_append]; show _ = b + (cs.length + 1); omega) hl
theorem RA_eq {U : State} {cA cB : ClassId} {ty : FieldType} (h1 : va_RA U cA ty) (h2 : va_RA U cB ty) : cA = cB := by
  cases ty with
  | object C =>
    obtain ⟨-, -, -, -, -, f1⟩ := h1
    obtain ⟨-, -, -, -, -, f2⟩ := h2
    exact Option.some.inj (f1.symm.trans f2)
  | _ => exact Option.some.inj (Eq.trans (Eq.symm h1) h2)
theorem KT_cls {Z : Zk} {U : State} {cA : ClassId} {ty : FieldType} (h : KT Z U) {t0 : Nat} {cB : ClassId} (ht : (tyZ Z)[t0]? = some (cB, ty)) (h1 : va_K Z.1 vwCl (tyZ Z ++ [(cA, ty)]) U) : cA = cB := RA_eq (h1.2 3 (cA, ty) rfl).2 (h.1.2 t0 _ ht).2
theorem U_newa {at0 : ArrayType} {ty : FieldType} {n : Nat} {cA : ClassId} (t0 : Nat) (ht : (tyZ Z)[t0]? = some (cA, ty)) (harr : Cond.arrayClass (newarray.typeOf at0) ∈ gw) (hty : newarray.typeOf at0 = ty) (hdef : defaultValue ty = .int (nI 0)) (hn : n < 2 ^ 31) (hby : n * componentBytes ty ≤ 536870912) (n0 : Nat) (hn0 : cs.length = n0) (hd : decode cc pc = .ok (.newarray at0, 2)) (h1 : ca + 1 ≤ mc) (h2 : sl + n ≤ ms)
    (hcs : cs ++ [.inl (cA, n, .inl (fun _ => nI 0))] = cs2) (k : U E Z own cc nL d mc ms b Q (pc + 2) lv (.ref (b + n0) :: st) cs2 (ca + 1) (sl + n)) : U E Z own cc nL d mc ms b Q pc lv (.int (nI n) :: st) cs ca sl := by
  intro ok H locs ls hP hS hz hl
  have ok' := ok
  subst hn0
  subst hcs
  obtain ⟨o1, o2, o3, o4, o5, o6, o7, o8, o9, o10, o11⟩ := ok'
  refine va_newa (D := Z.1) (a0 := (n, .inl (fun _ => nI 0))) o1 o2 (o5 _ harr) hty o6.1 hP (wl_D cs b) hS (fun q hq => Nat.le_trans o11 hq) (fun c => by rw [vp_cell_i, hdef]) (nI_pos hn) (nI_clamp hn) hby (Nat.le_trans h1 o9) (Nat.le_trans h2 o10) hd (fun q cB H1 hK1 hP1 hD1 hS1 => ?_)
  refine WU.sized (E := E) fun hsz => ?_
  have hq : q = b + cs.length := wl_new hP1 hD1 (by omega)
  have hB : cB = cA := KT_cls o6 ht hK1
  subst hq
  subst hB
  exact k ok H1 locs ls (by rw [wl_app]; exact hP1) hS1 (by rw [List.length_append]; show _ = b + (cs.length + 1); omega) hl
theorem U_newi {n : Nat} (hn : n < 2 ^ 20) (n0 : Nat) (hn0 : cs.length = n0) (hd : decode cc pc = .ok (.newarray .int, 2)) (harr : Cond.arrayClass .int ∈ gw) (h1 : ca + 1 ≤ mc) (h2 : sl + n ≤ ms)
    (hcs : cs ++ [.inl (Z.2.1, n, .inl (fun _ => nI 0))] = cs2) (k : U E Z own cc nL d mc ms b Q (pc + 2) lv (.ref (b + n0) :: st) cs2 (ca + 1) (sl + n)) : U E Z own cc nL d mc ms b Q pc lv (.int (nI n) :: st) cs ca sl :=
  U_newa (at0 := .int) (ty := .int) 0 rfl harr rfl (by rw [nI_0]; rfl) (by omega) (by show n * 4 ≤ _; omega) n0 hn0 hd h1 h2 hcs k
theorem U_newz {n : Nat} (hn : n < 2 ^ 20) (n0 : Nat) (hn0 : cs.length = n0) (hd : decode cc pc = .ok (.newarray .boolean, 2)) (harr : Cond.arrayClass .boolean ∈ gw) (h1 : ca + 1 ≤ mc) (h2 : sl + n ≤ ms)
    (hcs : cs ++ [.inl (Z.2.2.1, n, .inl (fun _ => nI 0))] = cs2) (k : U E Z own cc nL d mc ms b Q (pc + 2) lv (.ref (b + n0) :: st) cs2 (ca + 1) (sl + n)) : U E Z own cc nL d mc ms b Q pc lv (.int (nI n) :: st) cs ca sl :=
  U_newa (at0 := .boolean) (ty := .boolean) 1 rfl harr rfl (by rw [nI_0]; rfl) (by omega) (by show n * 1 ≤ _; omega) n0 hn0 hd h1 h2 hcs k
theorem U_newq {n idx : Nat} (hn : n < 2 ^ 20) (n0 : Nat) (hn0 : cs.length = n0) (hd : decode cc pc = .ok (.anewarray idx, 3)) (hcl : Cond.classLink own idx RX3 ∈ gw) (h1 : ca + 1 ≤ mc) (h2 : sl + n ≤ ms)
    (hcs : cs ++ [.inl (Z.2.2.2, n, .inr (.inr (.inr (.inr (fun _ => none)))))] = cs2) (k : U E Z own cc nL d mc ms b Q (pc + 3) lv (.ref (b + n0) :: st) cs2 (ca + 1) (sl + n)) : U E Z own cc nL d mc ms b Q pc lv (.int (nI n) :: st) cs ca sl := by
  intro ok H locs ls hP hS hz hl
  have ok' := ok
  subst hn0
  subst hcs
  obtain ⟨o1, o2, o3, o4, o5, o6, o7, o8, o9, o10, o11⟩ := ok'
  refine va_newq (D := Z.1) (N' := n) o1 o2 o4 (o5 _ hcl) o6.2.1 o6.1 hP (wl_D cs b) hS (fun q hq => Nat.le_trans o11 hq) (nI_pos (by omega)) (nI_clamp (by omega)) (by omega) (Nat.le_trans h1 o9) (Nat.le_trans h2 o10) hd (fun q cB H1 hK1 hP1 hD1 hS1 => ?_)
  refine WU.sized (E := E) fun hsz => ?_
  have hq : q = b + cs.length := wl_new hP1 hD1 (by omega)
  have hB : cB = Z.2.2.2 := KT_cls o6 (t0 := 2) rfl hK1
  subst hq
  subst hB
  exact k ok H1 locs ls (by rw [wl_app]; exact hP1) hS1 (by rw [List.length_append]; show _ = b + (cs.length + 1); omega) hl
theorem U_get {ci N idx a : Nat} {C : String} {T : u_T} {fs : List Value} {v : Value} (i0 : Nat) (ha : a = b + i0) (he : cs[i0]? = some (.inr (ci, fs))) (hc : vwCl[ci]? = some (C, T, N)) (hin : ∀ w ∈ u_ws C T N, w ∈ gw) (f : Nat) (hf : f < N) (hl : Cond.fieldLink own idx (T f).1 (T f).2.1 (T f).2.2.1 ∈ gw) (hv : fs[f]? = some v) (hd : decode cc pc = .ok (.getfield idx, 3))
    (k : U E Z own cc nL d mc ms b Q (pc + 3) lv (v :: st) cs ca sl) : U E Z own cc nL d mc ms b Q pc lv (.ref a :: st) cs ca sl := by
  intro ok H locs ls hP hS hz hl'
  subst ha
  have hts := ok.2.2.2.2.1
  exact va_get (D := Z.1) (v := v) (C := C) (T := T) (N := N) ok.1 ok.2.1 hts hin ok.2.2.2.1 ok.2.2.2.2.2.1.1 hP i0 (wl_get he) hc f hf (hts _ hl) (fun _ h9 => h9) hv hd (k ok H locs ls hP hS hz hl')
theorem U_put {ci N idx a : Nat} {C : String} {T : u_T} {fs : List Value} {v : Value} (i0 : Nat) (ha : a = b + i0) (he : cs[i0]? = some (.inr (ci, fs))) (hc : vwCl[ci]? = some (C, T, N)) (hin : ∀ w ∈ u_ws C T N, w ∈ gw) (ty0 : Nat → FieldType) (hty : ∀ k, k < N → parseFieldDescriptor (T k).2.2.1 = some (ty0 k)) (hnm : ∀ a, a < N → ∀ b, b < N → a ≠ b → (T a).2.1 ≠ (T b).2.1) (f : Nat) (hf : f < N) (hl : Cond.fieldLink own idx (T f).1 (T f).2.1 (T f).2.2.1 ∈ gw) (hfin : (T f).2.2.2 = false) {ty : FieldType} (hdt : parseFieldDescriptor (T f).2.2.1 = some ty) (hn : narrow ty v = v) (hfit : fits ty v = true) (hfl : f < fs.length) (hd : decode cc pc = .ok (.putfield idx, 3)) (hcs : cs.set i0 (.inr (ci, fs.set f v)) = cs2)
    (k : U E Z own cc nL d mc ms b Q (pc + 3) lv st cs2 ca sl) : U E Z own cc nL d mc ms b Q pc lv (v :: .ref a :: st) cs ca sl := by
  intro ok H locs ls hP hS hz hl'
  subst ha
  subst hcs
  have hts := ok.2.2.2.2.1
  refine va_put (D := Z.1) (v := v) (ty := ty) (C := C) (T := T) (N := N) ok.1 ok.2.1 hts hin ty0 hty hnm ok.2.2.2.1 ok.2.2.2.2.2.1.1 hP (wl_D cs b) hS i0 (wl_get he) hc f hf (hts _ hl) (fun _ h9 => h9) hfin hdt hn hfit hfl hd (fun H1 locs1 hP1 hD1 hS1 => ?_)
  exact k ok H1 locs1 ls (by rw [← wl_set]; exact hP1) hS1 (by rw [List.length_set]; exact hz) hl'
theorem U_putF {ci N idx a : Nat} {C : String} {T : u_T} {fs : List Value} {v : Value} (hi2 : E.2.1.2.2.2.1.name = "<init>") (i0 : Nat) (ha : a = b + i0) (he : cs[i0]? = some (.inr (ci, fs))) (hc : vwCl[ci]? = some (C, T, N)) (hin : ∀ w ∈ u_ws C T N, w ∈ gw) (ty0 : Nat → FieldType) (hty : ∀ k, k < N → parseFieldDescriptor (T k).2.2.1 = some (ty0 k)) (hnm : ∀ a, a < N → ∀ b, b < N → a ≠ b → (T a).2.1 ≠ (T b).2.1) (f : Nat) (hf : f < N) (hl : Cond.fieldLink own idx (T f).1 (T f).2.1 (T f).2.2.1 ∈ gw) (hfin : (T f).2.2.2 = true) (hdecl : (T f).1 = own) {ty : FieldType} (hdt : parseFieldDescriptor (T f).2.2.1 = some ty) (hn : narrow ty v = v) (hfit : fits ty v = true) (hfl : f < fs.length) (hd : decode cc pc = .ok (.putfield idx, 3)) (hcs : cs.set i0 (.inr (ci, fs.set f v)) = cs2)
    (k : U E Z own cc nL d mc ms b Q (pc + 3) lv st cs2 ca sl) : U E Z own cc nL d mc ms b Q pc lv (v :: .ref a :: st) cs ca sl := by
  intro ok H locs ls hP hS hz hl'
  subst ha
  subst hcs
  have hts := ok.2.2.2.2.1
  refine va_putF (D := Z.1) (v := v) (ty := ty) (C := C) (T := T) (N := N) ok.1 ok.2.1 hts hin ty0 hty hnm ok.2.2.2.1 ok.2.2.2.2.2.1.1 hP (wl_D cs b) hS i0 (wl_get he) hc f hf (hts _ hl) (fun _ h9 => h9) hfin hi2 hdecl hdt hn hfit hfl hd (fun H1 locs1 hP1 hD1 hS1 => ?_)
  exact k ok H1 locs1 ls (by rw [← wl_set]; exact hP1) hS1 (by rw [List.length_set]; exact hz) hl'
theorem U_alen {a n : Nat} {f : Nat → Option Nat} (i0 : Nat) (ha : a = b + i0) (he : cs[i0]? = some (.inl (Z.2.2.2, n, .inr (.inr (.inr (.inr f)))))) (hd : decode cc pc = .ok (.arraylength, 1))
    (k : U E Z own cc nL d mc ms b Q (pc + 1) lv (.int (nI n) :: st) cs ca sl) : U E Z own cc nL d mc ms b Q pc lv (.ref a :: st) cs ca sl := by
  intro ok H locs ls hP hS hz hl'
  subst ha
  exact va_alen (D := Z.1) ok.1 ok.2.1 ok.2.2.2.2.2.1.1 hP i0 2 (wl_get he) (ty := .object RX3) rfl rfl hd (k ok H locs ls hP hS hz hl')
theorem U_astq {a n v i : Nat} {f : Nat → Option Nat} {vs : List Value} (i0 iv : Nat) (ha : a = b + i0) (he : cs[i0]? = some (.inl (Z.2.2.2, n, .inr (.inr (.inr (.inr f)))))) (hv : v = b + iv) (hve : cs[iv]? = some (.inr (3, vs))) (hi : i < n) (hn : n < 2 ^ 31) (hd : decode cc pc = .ok (.aastore, 1)) (hcs : cs.set i0 (.inl (Z.2.2.2, n, .inr (.inr (.inr (.inr (va_up f i (some v))))))) = cs2)
    (k : U E Z own cc nL d mc ms b Q (pc + 1) lv st cs2 ca sl) : U E Z own cc nL d mc ms b Q pc lv (.ref v :: .int (nI i) :: .ref a :: st) cs ca sl := by
  intro ok H locs ls hP hS hz hl'
  subst ha
  subst hv
  subst hcs
  refine va_astq (D := Z.1) (r := (RX3, TX3, 4)) ok.1 ok.2.1 ok.2.2.2.2.2.1.1 hP (wl_D cs b) hS i0 2 iv 3 (wl_get he) rfl (wl_get hve) rfl (nI_in hi hn) hd (fun H1 locs1 hP1 hD1 hS1 => ?_)
  rw [nI_clamp (by omega)] at hP1
  exact k ok H1 locs1 ls (by rw [← wl_set]; exact hP1) hS1 (by rw [List.length_set]; exact hz) hl'
theorem U_num {ca2 sl2 : Nat} (h1 : ca = ca2) (h2 : sl = sl2) (k : U E Z own cc nL d mc ms b Q pc lv st cs ca2 sl2) : U E Z own cc nL d mc ms b Q pc lv st cs ca sl := by
  subst h1
  subst h2
  exact k
theorem U_obj {idx x : Nat} (hl : Cond.methodLink own idx objectInit ∈ gw) (hi : Cond.instanceMethod objectInit ∈ gw) (hcd : Cond.code objectInit ⟨#[0xb1]⟩ 1 none ∈ gw) (h1 : 1 ≤ d) (hd : decode cc pc = .ok (.invokespecial idx, 3)) (k : U E Z own cc nL d mc ms b Q (pc + 3) lv [] cs ca sl) : U E Z own cc nL d mc ms b Q pc lv [.ref x] cs ca sl := by
  intro ok H locs ls hP hS hz hl'
  have hts := ok.2.2.2.2.1
  have q1 := ok.2.2.2.2.2.2.1
  have q2 := ok.2.2.2.2.2.2.2.1
  refine W.objInit ok.1 ok.2.1 ok.2.2.2.1 (hts _ hl) (hts _ hi) (hts _ hcd) rfl (by rw [ok.2.2.1]; exact hl'.1) rfl hd (Nat.le_trans h1 q1) ?_ (k ok H locs ls hP hS hz hl')
  show 0 + 0 + 12 ≤ _
  omega
end UR
/-- a constructor's contract: its object is the last cell; behind it, cells cs1 from b on -/
def rmN (d mc ms : Nat) : Room := { frames := d, cells := mc, slots := ms, locals := 64 * d }
def QN (Z : Zk) (b : Nat) (cs : List va_E) : Array Value → State → Outcome → State → Prop := fun _ st oc t => (oc = .returned none ∧ va_P Z.1 vwCl (wl b cs) t.heap) ∧ va_F (fun q => b ≤ q) st t
def CN (y : MethodName) (cy : ByteArray) (nY d mc ms : Nat) (Z : Zk) (b : Nat) (e0 : va_E) (cs1 : List va_E) : Prop :=
  ∀ l : Launch, Met l y (.code y cy nY none :: gw) (rmN d mc ms) (va_Pc [.ref b] (fun U => U.heap.size = b + 1 ∧ va_P Z.1 vwCl (wl b [e0]) U.heap ∧ KT Z U)) (QN Z b cs1) mc ms (fun q => b ≤ q)
theorem CN_in {y : MethodName} {cy : ByteArray} {nY d mc ms : Nat} {Z : Zk} {b : Nat} {e0 : va_E} {cs1 : List va_E} (own : String) (n0 : Nat) (hy : plainName y.cls = true) (ho : y.cls = own) (hi : y.name = "<init>") (hn : 1 ≤ nY)
    (body : ∀ (E : EE) (Q : State → Prop), E.2.1.2.2.2.1.name = "<init>" → (∀ (pc : Nat) (lv : List (Option Value)), decode cy pc = .ok (.return_, 1) → U E Z own cy nY d mc ms b Q pc lv [] cs1 mc ms) → U E Z own cy nY d mc ms b Q 0 (some (.ref b) :: List.replicate n0 none) [] [e0] 0 0) : CN y cy nY d mc ms Z b e0 cs1 := by
  intro l
  refine Met.ofW (cc := cy) (maxL := nY) (ret := none) hy rfl ?_
  intro p e s m args below meth c s₁ BB hml hv
  obtain ⟨rfl, hsz, hP, hK⟩ := hv
  have hts := atoms_spec (ws := .code y cy nY none :: gw) BB.pre
  have k := body ((p, l, e, rmN d mc ms, s), (m, [Value.ref b].toArray, below, meth, c), 0, 0) (MQ below (QN Z b cs1) [Value.ref b].toArray s mc ms (fun q => b ≤ q)) (by rw [← hi]; exact (name_of_methodNamed BB.named BB.method).1) (fun pc lv hd ok H locs ls hP hS hz hl => W.vret (Qc := QN Z b cs1) ok.1 ok.2.1 BB.returns (fun t ht hW => ⟨⟨rfl, by rw [ht]; exact hP⟩, hS.F ht⟩) hS.2.2 hd BB.notSynchronized)
  rw [lg_entry_eq]
  exact k ⟨BB.exec, BB.bytes, hml, by rw [← ho]; exact findClass_of_methodNamed BB.named, fun w hw => hts w (List.mem_cons_of_mem _ hw), hK, Nat.le_refl _, Nat.le_refl _, Nat.le_refl _, Nat.le_refl _, by show b ≤ s.heap.size; omega⟩ s.heap [] _ hP va_S.rf (by show s.heap.size + 0 = b + 1; omega) (LV.entry (av := [.ref b]) (by show 1 ≤ nY; exact hn) n0)
section UC
variable {E : EE} {Z : Zk} {own : String} {cc : ByteArray} {nL d mc ms b : Nat} {Q : State → Prop} {pc : Nat} {lv : List (Option Value)} {cs : List va_E} {ca sl : Nat}
variable {y : MethodName} {cy : ByteArray} {nY dY mY sY idx : Nat} {e0 : va_E} {cs0 cs1 cs2 : List va_E} {rest : List Value}
theorem pre_N {H : Heap} {s : State} (hK : KT Z s) (hP : va_P Z.1 vwCl (wl b [e0]) H) (hz : H.size = b + 1) : FrameBlind (va_Pc [.ref b] (fun U => U.heap.size = b + 1 ∧ va_P Z.1 vwCl (wl b [e0]) U.heap ∧ KT Z U)) ∧ ∀ U : State, U.heap = H → s.WarmedH U.vm → va_Pc [.ref b] (fun U => U.heap.size = b + 1 ∧ va_P Z.1 vwCl (wl b [e0]) U.heap ∧ KT Z U) [Value.ref b].toArray U :=
  ⟨fun a U g mk q => ⟨q.1, q.2.1, q.2.2.1, q.2.2.2.calling⟩, fun U hU hW => ⟨rfl, by rw [hU]; exact hz, by rw [hU]; exact hP, hK.moved hW⟩⟩
def FI (y : MethodName) (cy : ByteArray) (nY : Nat) : Prop := Cond.instanceMethod y ∈ gw ∧ Cond.initialized y.cls ∈ gw ∧ Cond.code y cy nY none ∈ gw ∧ y.name = "<init>" ∧ FN y 0
theorem U_run (hr : UOk E Z own cc nL d mc ms b → ∀ (H : Heap) (locs : List Loc) (ls : Array Slot), va_P Z.1 vwCl (wl (b + cs.length) [e0]) H → H.size = b + cs.length + 1 → LV ls nL lv → va_Run E.1.1 E.1.2.1 E.1.2.2.1 E.1.2.2.2.1 E.1.2.2.2.2 E.2.1.1 E.2.1.2.1 E.2.1.2.2.1 E.2.1.2.2.2.1 E.2.1.2.2.2.2 H locs ca sl mY sY (F0 E.2.1.1 pc ls (.ref (b + cs.length) :: rest)) rest (QN Z (b + cs.length) cs1 [Value.ref (b + cs.length)].toArray) (fun q => b + cs.length ≤ q))
    (hm : mY + 1 = cs1.length) (k : U E Z own cc nL d mc ms b Q (pc + 3) lv rest (cs ++ cs1) (ca + mY) (sl + sY)) : U E Z own cc nL d mc ms b Q pc lv (.ref (b + cs.length) :: rest) (cs ++ [e0]) ca sl := by
  intro ok H locs ls hP hS hz hl T hT X
  have hsz : H.size ≤ E.1.2.2.2.2.heap.size + ca := by have h := X.same.2.2.1; rw [← hT]; exact h
  have hlen : (cs ++ [e0]).length = cs.length + 1 := by rw [List.length_append]; rfl
  rw [hlen] at hz
  rw [wl_app] at hP
  have hP0 : va_P Z.1 vwCl (wl b cs) H := fun i q hq => hP i q (by rw [List.getElem?_append_left (List.getElem?_eq_some_iff.mp hq).1]; exact hq)
  have hP1 : va_P Z.1 vwCl (wl (b + cs.length) [e0]) H := fun i q hq => by
    obtain ⟨j, hj⟩ := List.getElem?_of_mem (List.mem_append_right (wl b cs) (List.mem_of_getElem? hq))
    exact hP j q hj
  have hlt : b + cs.length < H.size := (hP1 0 (b + cs.length, e0) rfl).lt
  obtain ⟨v, st₀, t, T', L, h0, X', hL, e1, e2, ⟨⟨hv, hb⟩, hzz, hk⟩, stp⟩ := hr ok H locs ls hP1 (by omega) hl T hT X
  cases hv
  rw [h0] at hzz hk
  have hP2 : va_P Z.1 vwCl (wl b (cs ++ cs1)) T'.heap := by
    rw [wl_app]
    refine va_P.app (hP0.kept fun i q hq => ?_) (by rw [e1]; exact hb)
    have h5 := wl_of hq
    rw [e1]
    exact hk q.1 (by omega) (by show ¬ b + cs.length ≤ q.1; omega)
  have hS2 : va_S (fun q => b ≤ q) E.1.2.2.2.2.heap T'.heap (locs ++ L) := by
    refine ⟨Nat.le_trans hS.1 (by rw [e1]; exact hzz), fun q h1 h2 => ?_, fun q hq => ?_⟩
    · rw [e1, hk q (Nat.lt_of_lt_of_le h1 hS.1) (fun h => h2 (by show b ≤ q; omega))]
      exact hS.2.1 q h1 h2
    · rcases List.mem_append.mp hq with h | h
      · exact hS.2.2 q h
      · have := hL q h
        show b ≤ q.base
        omega
  obtain ⟨t2, a1, b1⟩ := k ok T'.heap (locs ++ L) ls hP2 hS2 (by rw [List.length_append]; omega) hl T' rfl X'
  exact ⟨t2, stp t2 a1, b1⟩
theorem U_callI (f : FI y cy nY) (hl : Cond.methodLink own idx y ∈ gw) (cs : List va_E) (n0 : Nat) (hM : CN y cy nY dY mY sY Z (b + n0) e0 cs1) (hd : decode cc pc = .ok (.invokespecial idx, 3)) (hdd : dY < d) (hL : nY ≤ 45) (hr : (rest.map fun v => v.category).sum ≤ 8) (h1 : ca + mY ≤ mc) (h2 : sl + sY ≤ ms) (hm : mY + 1 = cs1.length) (hn0 : cs.length = n0) (h0 : cs0 = cs ++ [e0]) (hcs : cs ++ cs1 = cs2)
    (k : U E Z own cc nL d mc ms b Q (pc + 3) lv rest cs2 (ca + mY) (sl + sY)) : U E Z own cc nL d mc ms b Q pc lv (.ref (b + n0) :: rest) cs0 ca sl := by
  subst hn0
  subst h0
  subst hcs
  refine U_run (fun ok H locs ls hP hz hl' => ?_) hm k
  obtain ⟨o1, o2, o3, o4, o5, o6, o7, o8, o9, o10, o11⟩ := ok
  obtain ⟨f1, f2, f3, f4, f5⟩ := f
  refine va_runI (As := []) ⟨o1, o2, o3, o4, o5⟩ (hM _) (cwI (ws' := gw) 0 o5 (good_gw (code_in f3)) rfl rfl rfl (o5 _ f2) (o5 _ hl) (o5 _ f1) f4 f5 ⟨?_, ?_⟩) (pre_N o6 hP hz) rfl rfl hl'.1 rfl (lv_room hr) hd ⟨Nat.le_trans h1 o9, Nat.le_trans h2 o10⟩
  · show dY + 1 ≤ _
    omega
  · show 8 + (nY + 11) + 64 * dY ≤ _
    omega
theorem U_callN {host : String} (f : FI y cy nY) (hl : Cond.methodLinkNest own idx y host ∈ nestN) (cs : List va_E) (n0 : Nat) (hM : CN y cy nY dY mY sY Z (b + n0) e0 cs1) (hd : decode cc pc = .ok (.invokespecial idx, 3)) (hdd : dY < d) (hL : nY ≤ 45) (hr : (rest.map fun v => v.category).sum ≤ 8) (h1 : ca + mY ≤ mc) (h2 : sl + sY ≤ ms) (hm : mY + 1 = cs1.length) (hn0 : cs.length = n0) (h0 : cs0 = cs ++ [e0]) (hcs : cs ++ cs1 = cs2)
    (k : U E Z own cc nL d mc ms b Q (pc + 3) lv rest cs2 (ca + mY) (sl + sY)) : U E Z own cc nL d mc ms b Q pc lv (.ref (b + n0) :: rest) cs0 ca sl := by
  subst hn0
  subst h0
  subst hcs
  refine U_run (fun ok H locs ls hP hz hl' => ?_) hm k
  obtain ⟨o1, o2, o3, o4, o5, o6, o7, o8, o9, o10, o11⟩ := ok
  obtain ⟨f1, f2, f3, f4, f5⟩ := f
  refine va_runIN (host := host) (As := []) ⟨o1, o2, o3, o4, o5⟩ (hM _) ⟨va_cnB (ws' := gw) 0 o5 (good_gw (code_in f3)) rfl rfl rfl (o6.2.2 _ hl) (o5 _ f2) f5 ⟨?_, ?_⟩, f4, o5 _ f1⟩ (pre_N o6 hP hz) rfl rfl hl'.1 rfl (lv_room hr) hd ⟨Nat.le_trans h1 o9, Nat.le_trans h2 o10⟩
  · show dY + 1 ≤ _
    omega
  · show 8 + (nY + 11) + 64 * dY ≤ _
    omega
end UC
theorem iz_L : Cond.initialized RL ∈ gw := gt_in (i := 0) (by decide +kernel) rfl
theorem iz_X4 : Cond.initialized RX4 ∈ gw := gt_in (i := 1) (by decide +kernel) rfl
theorem iz_X0 : Cond.initialized RX0 ∈ gw := gt_in (i := 2) (by decide +kernel) rfl
theorem iz_X3 : Cond.initialized RX3 ∈ gw := gt_in (i := 3) (by decide +kernel) rfl
theorem iz_X2 : Cond.initialized RX2 ∈ gw := gt_in (i := 4) (by decide +kernel) rfl
theorem iz_X1 : Cond.initialized RX1 ∈ gw := gt_in (i := 5) (by decide +kernel) rfl
theorem iz_X5 : Cond.initialized RX5 ∈ gw := gt_in (i := 6) (by decide +kernel) rfl
theorem cl_L_7 : Cond.classLink RL 7 RX4 ∈ gw := gt_in (i := 9) (by decide +kernel) rfl
theorem is_X4 : Cond.instantiable RX4 15 ∈ gw := gt_in (i := 10) (by decide +kernel) rfl
theorem cl_X4_13 : Cond.classLink RX4 13 RX0 ∈ gw := gt_in (i := 17) (by decide +kernel) rfl
theorem is_X0 : Cond.instantiable RX0 11 ∈ gw := gt_in (i := 18) (by decide +kernel) rfl
theorem ac_int : Cond.arrayClass .int ∈ gw := gt_in (i := 69) (by decide +kernel) rfl
theorem cl_X4_23 : Cond.classLink RX4 23 RX3 ∈ gw := gt_in (i := 70) (by decide +kernel) rfl
theorem is_X3 : Cond.instantiable RX3 4 ∈ gw := gt_in (i := 71) (by decide +kernel) rfl
theorem cl_X4_36 : Cond.classLink RX4 36 RX2 ∈ gw := gt_in (i := 92) (by decide +kernel) rfl
theorem is_X2 : Cond.instantiable RX2 3 ∈ gw := gt_in (i := 93) (by decide +kernel) rfl
theorem cl_X2_9 : Cond.classLink RX2 9 RX3 ∈ gw := gt_in (i := 98) (by decide +kernel) rfl
theorem cl_X4_47 : Cond.classLink RX4 47 RX1 ∈ gw := gt_in (i := 112) (by decide +kernel) rfl
theorem is_X1 : Cond.instantiable RX1 4 ∈ gw := gt_in (i := 113) (by decide +kernel) rfl
theorem cl_L_10 : Cond.classLink RL 10 RX5 ∈ gw := gt_in (i := 573) (by decide +kernel) rfl
theorem is_X5 : Cond.instantiable RX5 31 ∈ gw := gt_in (i := 574) (by decide +kernel) rfl
theorem ac_boolean : Cond.arrayClass .boolean ∈ gw := gt_in (i := 673) (by decide +kernel) rfl
theorem fi_X0 : FI yX0_init cX0_init 1 := ⟨gt_in (i := 20) (by decide +kernel) rfl, gt_in (i := 2) (by decide +kernel) rfl, gt_in (i := 21) (by decide +kernel) rfl, rfl, ⟨by decide +kernel, by decide +kernel, by decide +kernel⟩⟩
theorem fi_X1 : FI yX1_init cX1_init 1 := ⟨gt_in (i := 115) (by decide +kernel) rfl, gt_in (i := 5) (by decide +kernel) rfl, gt_in (i := 116) (by decide +kernel) rfl, rfl, ⟨by decide +kernel, by decide +kernel, by decide +kernel⟩⟩
theorem fi_X2 : FI yX2_init cX2_init 2 := ⟨gt_in (i := 95) (by decide +kernel) rfl, gt_in (i := 4) (by decide +kernel) rfl, gt_in (i := 96) (by decide +kernel) rfl, rfl, ⟨by decide +kernel, by decide +kernel, by decide +kernel⟩⟩
theorem fi_X3 : FI yX3_init cX3_init 1 := ⟨gt_in (i := 73) (by decide +kernel) rfl, gt_in (i := 3) (by decide +kernel) rfl, gt_in (i := 74) (by decide +kernel) rfl, rfl, ⟨by decide +kernel, by decide +kernel, by decide +kernel⟩⟩
theorem fi_X4 : FI yX4_init cX4_init 2 := ⟨gt_in (i := 12) (by decide +kernel) rfl, gt_in (i := 1) (by decide +kernel) rfl, gt_in (i := 13) (by decide +kernel) rfl, rfl, ⟨by decide +kernel, by decide +kernel, by decide +kernel⟩⟩
theorem fi_X5 : FI yX5_init cX5_init 1 := ⟨gt_in (i := 576) (by decide +kernel) rfl, gt_in (i := 6) (by decide +kernel) rfl, gt_in (i := 577) (by decide +kernel) rfl, rfl, ⟨by decide +kernel, by decide +kernel, by decide +kernel⟩⟩
theorem oi_i : Cond.instanceMethod objectInit ∈ gw := gt_in (i := 15) (by decide +kernel) rfl
theorem oi_c : Cond.code objectInit ⟨#[0xb1]⟩ 1 none ∈ gw := gt_in (i := 16) (by decide +kernel) rfl
