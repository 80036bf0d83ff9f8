/-! ===== values, heaps: ints and longs as Int, references as numbers of cells ===== -/
abbrev zV : Type := Int ⊕ (Int ⊕ Nat)
abbrev zI (z : Int) : zV := Sum.inl z
abbrev zJ (z : Int) : zV := Sum.inr (Sum.inl z)
abbrev zR (i : Nat) : zV := Sum.inr (Sum.inr i)
abbrev zMem : Type := Nat → Int → Int
abbrev zSh : Type := Nat × (Nat → Nat × Nat) × (Nat → Nat → Option Nat)
abbrev zG : Type := va_G × (ClassId × ClassId × ClassId) × Nat
def zwr (z : Int) : Int := (z + 2147483648) % 4294967296 - 2147483648
def zwl (z : Int) : Int := (z + 9223372036854775808) % 18446744073709551616 - 9223372036854775808
def zw_r32 (z : Int) : Prop := -2147483648 ≤ z ∧ z < 2147483648
def zw_r64 (z : Int) : Prop := -9223372036854775808 ≤ z ∧ z < 9223372036854775808
theorem zwr_r (z : Int) : zw_r32 (zwr z) := by unfold zw_r32 zwr; omega
theorem zwl_r (z : Int) : zw_r64 (zwl z) := by unfold zw_r64 zwl; omega
theorem zwr_id {z : Int} (h1 : -2147483648 ≤ z) (h2 : z < 2147483648) : zwr z = z := by unfold zwr; omega
theorem zwl_id {z : Int} (h1 : -9223372036854775808 ≤ z) (h2 : z < 9223372036854775808) : zwl z = z := by unfold zwl; omega
theorem zo_wr (z : Int) : Int32.ofInt (zwr z) = Int32.ofInt z := by
  apply Int32.toInt_inj.mp
  rw [Int32.toInt_ofInt, Int32.toInt_ofInt, ← Int.emod_bmod (zwr z), ← Int.emod_bmod z]
  congr 1
  show zwr z % 4294967296 = z % 4294967296
  unfold zwr; omega
theorem zo_wl (z : Int) : Int64.ofInt (zwl z) = Int64.ofInt z := by
  apply Int64.toInt_inj.mp
  rw [Int64.toInt_ofInt, Int64.toInt_ofInt, ← Int.emod_bmod (zwl z), ← Int.emod_bmod z]
  congr 1
  show zwl z % 18446744073709551616 = z % 18446744073709551616
  unfold zwl; omega
theorem zt_of {z : Int} (h : zw_r32 z) : (Int32.ofInt z).toInt = z := Int32.toInt_ofInt_of_le h.1 h.2
theorem zt_ofl {z : Int} (h : zw_r64 z) : (Int64.ofInt z).toInt = z := Int64.toInt_ofInt_of_le h.1 h.2
theorem zr_of (v : Int32) : zw_r32 v.toInt := ⟨Int32.le_toInt v, Int32.toInt_lt v⟩
theorem zr_ofl (v : Int64) : zw_r64 v.toInt := ⟨Int64.le_toInt v, Int64.toInt_lt v⟩
theorem zo_add (a b : Int) : Int32.ofInt a + Int32.ofInt b = Int32.ofInt (zwr (a + b)) := by rw [zo_wr, Int32.ofInt_add]
theorem zo_sub (a b : Int) : Int32.ofInt a - Int32.ofInt b = Int32.ofInt (zwr (a - b)) := by rw [zo_wr, Int32.ofInt_sub]
theorem zo_mul (a b : Int) : Int32.ofInt a * Int32.ofInt b = Int32.ofInt (zwr (a * b)) := by rw [zo_wr, Int32.ofInt_mul]
theorem zo_neg (a : Int) : -Int32.ofInt a = Int32.ofInt (zwr (-a)) := by rw [zo_wr, Int32.ofInt_neg]
theorem zo_div {a b : Int} (ha : zw_r32 a) (hb : zw_r32 b) : Int32.ofInt a / Int32.ofInt b = Int32.ofInt (zwr (a.tdiv b)) := by
  apply Int32.toInt_inj.mp
  rw [Int32.toInt_div, zt_of ha, zt_of hb, zo_wr, Int32.toInt_ofInt]
theorem zo_rem {a b : Int} (ha : zw_r32 a) (hb : zw_r32 b) : Int32.ofInt a - Int32.ofInt a / Int32.ofInt b * Int32.ofInt b = Int32.ofInt (a.tmod b) := by
  rw [zo_div ha hb, zo_wr, ← Int32.ofInt_mul, ← Int32.ofInt_sub, Int.tmod_def]
  congr 2
  exact Int.mul_comm _ _
theorem zo_eq {a b : Int} (ha : zw_r32 a) (hb : zw_r32 b) : Int32.ofInt a = Int32.ofInt b ↔ a = b := by
  constructor
  · intro h
    have h1 := congrArg Int32.toInt h
    rwa [zt_of ha, zt_of hb] at h1
  · intro h; rw [h]
theorem zo_lt {a b : Int} (ha : zw_r32 a) (hb : zw_r32 b) : Int32.ofInt a < Int32.ofInt b ↔ a < b := by
  rw [Int32.lt_iff_toInt_lt, zt_of ha, zt_of hb]
theorem zo_le {a b : Int} (ha : zw_r32 a) (hb : zw_r32 b) : Int32.ofInt a ≤ Int32.ofInt b ↔ a ≤ b := by
  rw [Int32.le_iff_toInt_le, zt_of ha, zt_of hb]
theorem zo_0 : Int32.ofInt 0 = 0 := by decide +kernel
theorem z32_0 : zw_r32 0 := by unfold zw_r32; omega
theorem zo_clamp {j : Int} {n : Nat} (h0 : 0 ≤ j) (h1 : j < n) (hr : zw_r32 j) : vp_in (Int32.ofInt j) n ∧ (Int32.ofInt j).toNatClampNeg = j.toNat := by
  have e : (Int32.ofInt j).toNatClampNeg = j.toNat := by
    show (Int32.ofInt j).toInt.toNat = _
    rw [zt_of hr]
  refine ⟨?_, e⟩
  intro h
  rcases h with h | h
  · rw [← zo_0, zo_lt hr z32_0] at h
    omega
  · rw [e] at h
    omega
def zw_cat : zV → Nat
  | .inr (.inl _) => 2
  | _ => 1
def zw_val (ad : Nat → Nat) : zV → Value
  | .inl z => .int (Int32.ofInt z)
  | .inr (.inl z) => .long (Int64.ofInt z)
  | .inr (.inr i) => .ref (ad i)
def zw_ix (N i : Nat) : Prop := i < N ∨ 1000 ≤ i
def zw_ok (N : Nat) : zV → Prop
  | .inl z => zw_r32 z
  | .inr (.inl z) => zw_r64 z
  | .inr (.inr i) => zw_ix N i
def zw_oks (N : Nat) : List zV → Prop
  | [] => True
  | v :: t => zw_ok N v ∧ zw_oks N t
theorem zw_catv (ad : Nat → Nat) (v : zV) : (zw_val ad v).category = zw_cat v := by
  rcases v with z | z | i <;> rfl
theorem zw_ok_mono {N N' : Nat} (h : N ≤ N') {v : zV} (k : zw_ok N v) : zw_ok N' v := by
  rcases v with z | z | i
  · exact k
  · exact k
  · rcases k with k | k
    · exact Or.inl (Nat.lt_of_lt_of_le k h)
    · exact Or.inr k
theorem zw_oks_mono {N N' : Nat} (h : N ≤ N') : ∀ {st : List zV}, zw_oks N st → zw_oks N' st
  | [], _ => trivial
  | _ :: _, k => ⟨zw_ok_mono h k.1, zw_oks_mono h k.2⟩
theorem zw_val_ext {N : Nat} {ad ad' : Nat → Nat} (h : ∀ i, zw_ix N i → ad' i = ad i) {v : zV} (k : zw_ok N v) : zw_val ad' v = zw_val ad v := by
  rcases v with z | z | i
  · rfl
  · rfl
  · exact congrArg Value.ref (h i k)
theorem zw_map_ext {N : Nat} {ad ad' : Nat → Nat} (h : ∀ i, zw_ix N i → ad' i = ad i) : ∀ {st : List zV}, zw_oks N st → st.map (zw_val ad') = st.map (zw_val ad)
  | [], _ => rfl
  | _ :: _, k => by rw [List.map_cons, List.map_cons, zw_val_ext h k.1, zw_map_ext h k.2]
theorem zw_oks_app {N : Nat} : ∀ {a b : List zV}, zw_oks N (a ++ b) ↔ zw_oks N a ∧ zw_oks N b
  | [], b => by simp [zw_oks]
  | x :: a, b => by simp [zw_oks, zw_oks_app (a := a) (b := b), and_assoc]
theorem zw_oks_rev {N : Nat} : ∀ {a : List zV}, zw_oks N a.reverse ↔ zw_oks N a
  | [] => by simp
  | x :: a => by rw [List.reverse_cons, zw_oks_app, zw_oks_rev (a := a)]; simp [zw_oks, and_comm]
theorem zw_oks_mem {N : Nat} : ∀ {a : List zV}, zw_oks N a → ∀ v ∈ a, zw_ok N v
  | [], _, v, h => by cases h
  | x :: a, k, v, h => by
    rcases List.mem_cons.mp h with rfl | h
    · exact k.1
    · exact zw_oks_mem k.2 v h
def zu (mem : zMem) (i : Nat) (k v : Int) : zMem := fun a b => if a = i ∧ b = k then v else mem a b
theorem zu_s {mem : zMem} {i : Nat} {k v : Int} : zu mem i k v i k = v := by simp [zu]
theorem zu_n {mem : zMem} {i a : Nat} {k b v : Int} (h : a ≠ i ∨ b ≠ k) : zu mem i k v a b = mem a b := by
  unfold zu
  rw [if_neg]
  rintro ⟨h1, h2⟩
  rcases h with h | h
  · exact h h1
  · exact h h2
def zz (mem : zMem) (i : Nat) : zMem := fun a b => if a = i then 0 else mem a b
def zw_isrT : List (List Bool) := [[true, true, false, true], [true, true], [false, true, true, true], [false, false, true, true], [true, true, false], [false, true, true, false, false, false, false], [false, false, false, false, false, true, true, false], [false, false, true], [true, true, true, true, false, false, false, false], [true, true, true, true, true, true, true, true, true, true, false], [true, false, true, true, true, false, true, true, false, true, true, false, false, true, true, false, false, true, false, true, true, true, true, true, false, false, true, true, false, false, true, true, true, false, false, false]]
def zw_isr (c k : Nat) : Bool := (zw_isrT.getD c []).getD k false
def zw_fld (ad : Nat → Nat) (sh : zSh) (mem : zMem) (c i k : Nat) : Value := if zw_isr c k = true then va_rf ((sh.2.2 i k).map ad) else .int (Int32.ofInt (mem i k))
def zw_ent (G : zG) (ad : Nat → Nat) (sh : zSh) (mem : zMem) (i : Nat) : va_E :=
  match sh.2.1 i with
  | (0, n) => .inl (G.2.1.1, n, .inl (fun k => Int32.ofInt (mem i k)))
  | (1, n) => .inl (G.2.1.2.1, n, .inl (fun k => Int32.ofInt (mem i k)))
  | (2, n) => .inl (G.2.1.2.2, n, .inr (.inr (.inr (.inr (fun k => (sh.2.2 i k).map ad)))))
  | (c + 3, n) => .inr (c, (List.range n).map (fun k => zw_fld ad sh mem c i k))
def zw_ws (G : zG) (ad : Nat → Nat) (sh : zSh) (mem : zMem) : va_W := (List.range sh.1).map (fun i => (ad i, zw_ent G ad sh mem i))
theorem zw_ws_at {G : zG} {ad : Nat → Nat} {sh : zSh} {mem : zMem} {i : Nat} (h : i < sh.1) : (zw_ws G ad sh mem)[i]? = some (ad i, zw_ent G ad sh mem i) := by simp [zw_ws, h]
theorem zw_ws_set {G : zG} {ad : Nat → Nat} {sh sh' : zSh} {mem mem' : zMem} {i : Nat} (hi : i < sh.1) (hN : sh'.1 = sh.1) (h : ∀ j, j < sh.1 → j ≠ i → zw_ent G ad sh' mem' j = zw_ent G ad sh mem j) : (zw_ws G ad sh mem).set i (ad i, zw_ent G ad sh' mem' i) = zw_ws G ad sh' mem' := by
  apply List.ext_getElem?
  intro j
  rw [List.getElem?_set]
  have hl : (zw_ws G ad sh mem).length = sh.1 := by simp [zw_ws]
  rw [hl]
  by_cases hj : j < sh.1
  · rw [zw_ws_at (sh := sh') (by omega)]
    by_cases hij : i = j
    · subst hij
      simp [hi]
    · rw [if_neg hij, zw_ws_at hj, h j hj (fun e => hij e.symm)]
  · have h1 : (zw_ws G ad sh mem)[j]? = none := List.getElem?_eq_none (by omega)
    have h2 : (zw_ws G ad sh' mem')[j]? = none := List.getElem?_eq_none (by simp [zw_ws]; omega)
    rw [h1, h2]
    by_cases hij : i = j
    · omega
    · rw [if_neg hij]
theorem zw_ws_push {G : zG} {ad ad' : Nat → Nat} {sh sh' : zSh} {mem mem' : zMem} (hN : sh'.1 = sh.1 + 1) (h : ∀ j, j < sh.1 → ad' j = ad j ∧ zw_ent G ad' sh' mem' j = zw_ent G ad sh mem j) : zw_ws G ad sh mem ++ [(ad' sh.1, zw_ent G ad' sh' mem' sh.1)] = zw_ws G ad' sh' mem' := by
  unfold zw_ws
  rw [hN, List.range_succ, List.map_append]
  congr 1
  apply List.map_congr_left
  intro j hj
  obtain ⟨h1, h2⟩ := h j (List.mem_range.mp hj)
  rw [h1, h2]
/-- the world: its cells, the read-only arrays (1000: PRIMES, 1001: the script), the ranges -/
def zw_Ro (G : zG) (ad : Nat → Nat) (sh : zSh) (mem : zMem) (U : State) (H : Heap) : Prop := va_Z "LettersEliminated$Numbers" "PRIMES" "[I" (.ref (ad 1000)) (fun q => G.2.2 ≤ q) U H ∧ ∀ j, j = 1000 ∨ j = 1001 → va_T .int (ad j) (sh.2.1 j).2 (fun k => .int (Int32.ofInt (mem j k))) (fun q => G.2.2 ≤ q) U H
def zw_tys (G : zG) : List (ClassId × FieldType) := [(G.2.1.1, .int), (G.2.1.2.1, .boolean), (G.2.1.2.2, .object "LettersEliminated$Poly")]
def zw_rg (sh : zSh) (mem : zMem) : Prop := (∀ i k, zw_r32 (mem i k)) ∧ (∀ i k j, sh.2.2 i k = some j → j < sh.1) ∧ sh.1 ≤ 1000
def zw_Wd (G : zG) (ad : Nat → Nat) (sh : zSh) (mem : zMem) (U : State) (H : Heap) : Prop := va_K G.1 vwCl (zw_tys G) U ∧ va_P G.1 vwCl (zw_ws G ad sh mem) H ∧ va_D (fun q => G.2.2 ≤ q) (zw_ws G ad sh mem) ∧ zw_Ro G ad sh mem U H ∧ zw_rg sh mem
theorem zw_Ro.moved {G : zG} {ad : Nat → Nat} {sh : zSh} {mem : zMem} {u U : State} {H : Heap} (hvm : u.vm.Alike U.vm) (h : zw_Ro G ad sh mem u H) : zw_Ro G ad sh mem U H := ⟨va_Z.moved hvm h.1, fun j hj => va_T.moved hvm (h.2 j hj)⟩
theorem zw_Ro.kept {G : zG} {ad : Nat → Nat} {sh : zSh} {mem : zMem} {U : State} {H H1 : Heap} (h : zw_Ro G ad sh mem U H) (hq : ∀ a : Nat, a < H.size → ¬ G.2.2 ≤ a → H1[a]? = H[a]?) : zw_Ro G ad sh mem U H1 := ⟨va_Z.kept h.1 hq, fun j hj => va_T.kept (h.2 j hj) hq⟩
theorem zw_Wd.moved {G : zG} {ad : Nat → Nat} {sh : zSh} {mem : zMem} {u U : State} {H : Heap} (hvm : u.vm.Alike U.vm) (h : zw_Wd G ad sh mem u H) : zw_Wd G ad sh mem U H := ⟨va_K.moved hvm h.1, h.2.1, h.2.2.1, zw_Ro.moved hvm h.2.2.2.1, h.2.2.2.2⟩
/-! ===== where a walk stands ===== -/
def lw_g : List Cond := lw_tbl.filter goodWord
def zw_nest : List (String × Nat × MethodName × String) := [("LettersEliminated$Shelf", 21, ⟨"LettersEliminated$Poly", "<init>", "()V"⟩, "LettersEliminated"), ("LettersEliminated", 21, ⟨"LettersEliminated$Reader", "<init>", "()V"⟩, "LettersEliminated"), ("LettersEliminated", 28, ⟨"LettersEliminated$Past", "<init>", "()V"⟩, "LettersEliminated"), ("LettersEliminated", 35, ⟨"LettersEliminated$Table", "<init>", "()V"⟩, "LettersEliminated"), ("LettersEliminated", 42, ⟨"LettersEliminated$Chain", "<init>", "()V"⟩, "LettersEliminated"), ("LettersEliminated", 49, ⟨"LettersEliminated$Polygon", "<init>", "()V"⟩, "LettersEliminated"), ("LettersEliminated", 56, ⟨"LettersEliminated$Roots", "<init>", "()V"⟩, "LettersEliminated"), ("LettersEliminated", 63, ⟨"LettersEliminated$Lists", "<init>", "()V"⟩, "LettersEliminated")]
def zw_N (U : State) : Prop := (∀ q ∈ zw_nest, va_Nw (.methodLinkNest q.1 q.2.1 q.2.2.1 q.2.2.2) U) ∧ va_AO "LettersEliminated$Poly" U
def zw_Ls (M : zMM) (ad : Nat → Nat) (N : Nat) (ls : List (Option zV)) (lsM : Array Slot) : Prop := lsM.size = zn M ∧ lv_wf lsM ∧ ∀ (i : Nat) (v : zV), ls[i]? = some (some v) → lsM[i]? = some (Slot.val (zw_val ad v)) ∧ zw_ok N v
def zw_Now (M : zMM) (G : zG) (ad0 : Nat → Nat) (N0 : Nat) (R : Room) (s : State) (sh : zSh) (ls : List (Option zV)) (st : List zV) (mem : zMem) (bc bs : Nat) (H : Heap) (locs : List Loc) (ad : Nat → Nat) (lsM : Array Slot) (cells slots : Nat) : Prop :=
  zw_Wd G ad sh mem s H ∧ va_S (fun q => G.2.2 ≤ q) s.heap H locs ∧ zw_Ls M ad sh.1 ls lsM ∧ zw_oks sh.1 st ∧ ((N0 ≤ sh.1 ∧ ∀ i, zw_ix N0 i → ad i = ad0 i) ∧ cells + bc ≤ R.cells ∧ slots + bs ≤ R.slots)
def zw_rt (M : zMM) (pc : Nat) (r : Option zV) : Prop := match r with
  | none => decode (zc M) pc = .ok (.return_, 1) ∧ zr M = none
  | some (.inl z) => decode (zc M) pc = .ok (.ireturn, 1) ∧ (zr M = some .int ∨ (zr M = some .boolean ∧ (z = 0 ∨ z = 1)))
  | some (.inr (.inl _)) => decode (zc M) pc = .ok (.lreturn, 1) ∧ zr M = some .long
  | some (.inr (.inr _)) => decode (zc M) pc = .ok (.areturn, 1) ∧ ∃ n, zr M = some (.object n)
abbrev zQ : Type := Option zV → zSh → zMem → Prop
def zw_Cx (l : Launch) (M : zMM) (p : Program) (e : Env) (R : Room) (s : State) (m : MethodId) (args : Array Value) (below : List Frame) (meth : Method) (c : Code) (Z : State → Prop) (G : zG) (ad0 : Nat → Nat) (N0 : Nat) (Q : zQ) : Prop :=
  p.tables.exec = Jvm.exec ∧ c.code = zc M ∧ c.maxLocals = zn M ∧ s.vm.findClass (zy M).cls = some m.cls ∧ (∀ w ∈ lw_g, w.before args s = true) ∧ (meth.name = (zy M).name ∧ zw_N s) ∧ G.2.2 ≤ s.heap.size ∧ (zF M ≤ R.frames ∧ zL M ≤ R.locals) ∧
  ∀ (pc : Nat) (r : Option zV) (sh : zSh) (mem : zMem) (H : Heap) (locs : List Loc) (ad : Nat → Nat) (lsM : Array Slot) (cells slots bc bs : Nat), zw_rt M pc r → zw_Now M G ad0 N0 R s sh [] r.toList mem bc bs H locs ad lsM cells slots → Q r sh mem → W p l e R s m args below meth c H locs cells slots Z (F0 m pc lsM (r.toList.map (zw_val ad)))
/-- the predicate: from here the method comes to its end, with Q -/
def zw_Wp (l : Launch) (M : zMM) (sh : zSh) (pc : Nat) (ls : List (Option zV)) (st : List zV) (mem : zMem) (bc bs : Nat) (Q : zQ) : Prop :=
  ∀ (p : Program) (e : Env) (R : Room) (s : State) (m : MethodId) (args : Array Value) (below : List Frame) (meth : Method) (c : Code) (Z : State → Prop) (G : zG) (ad0 : Nat → Nat) (N0 : Nat) (H : Heap) (locs : List Loc) (ad : Nat → Nat) (lsM : Array Slot) (cells slots : Nat),
    zw_Cx l M p e R s m args below meth c Z G ad0 N0 Q → zw_Now M G ad0 N0 R s sh ls st mem bc bs H locs ad lsM cells slots → W p l e R s m args below meth c H locs cells slots Z (F0 m pc lsM (st.map (zw_val ad)))
theorem zw_Ls.get {M : zMM} {ad : Nat → Nat} {N : Nat} {ls : List (Option zV)} {lsM : Array Slot} (h : zw_Ls M ad N ls lsM) {i : Nat} {v : zV} (hi : ls[i]? = some (some v)) : lsM[i]? = some (Slot.val (zw_val ad v)) ∧ zw_ok N v := h.2.2 i v hi
theorem zw_Ls.nil {M : zMM} {ad : Nat → Nat} {N : Nat} {ls : List (Option zV)} {lsM : Array Slot} (h : zw_Ls M ad N ls lsM) : zw_Ls M ad N [] lsM := ⟨h.1, h.2.1, fun i v hi => by simp at hi⟩
def zw_lv (ad : Nat → Nat) (ls : List (Option zV)) : List (Nat × Value) := (List.range ls.length).filterMap (fun j => (ls[j]?.join).map (fun v => (j, zw_val ad v)))
theorem zw_lv_mem {ad : Nat → Nat} {ls : List (Option zV)} {q : Nat × Value} : q ∈ zw_lv ad ls ↔ ∃ v, ls[q.1]? = some (some v) ∧ q.2 = zw_val ad v := by
  unfold zw_lv
  rw [List.mem_filterMap]
  constructor
  · rintro ⟨j, hj, h⟩
    cases hx : ls[j]? with
    | none => rw [hx] at h; cases h
    | some o =>
      cases o with
      | none => rw [hx] at h; cases h
      | some v =>
        rw [hx] at h
        cases h
        exact ⟨v, hx, rfl⟩
  · rintro ⟨v, h1, h2⟩
    refine ⟨q.1, List.mem_range.mpr (List.getElem?_eq_some_iff.mp h1).1, ?_⟩
    rw [h1]
    show some (q.1, zw_val ad v) = some q
    rw [← h2]
theorem zw_Ls.has {M : zMM} {ad : Nat → Nat} {N : Nat} {ls : List (Option zV)} {lsM : Array Slot} (h : zw_Ls M ad N ls lsM) : lv_has lsM (zn M) (zw_lv ad ls) := by
  refine ⟨h.1, h.2.1, fun q hq => ?_⟩
  obtain ⟨v, h1, h2⟩ := zw_lv_mem.mp hq
  rw [h2]
  exact (h.2.2 q.1 v h1).1
/-- no long stands just ahead of place i -/
def zw_nlo : Option (Option zV) → Bool
  | some (some (.inr (.inl _))) => false
  | _ => true
def zw_nl (ls : List (Option zV)) (i : Nat) : Bool := match i with
  | 0 => true
  | j + 1 => zw_nlo ls[j]?
theorem zw_Ls.set1 {M : zMM} {ad : Nat → Nat} {N : Nat} {ls : List (Option zV)} {lsM ls' : Array Slot} {i : Nat} {v : zV} (h : zw_Ls M ad N ls lsM) (hn : zw_nl ls i = true) (hv : zw_ok N v) (h' : lv_has ls' (zn M) ((i, zw_val ad v) :: (zw_lv ad ls).filter (fun q => !(q.1 == i) && !(q.1 + 1 == i && q.2.category == 2)))) : zw_Ls M ad N (ls.set i (some v)) ls' := by
  refine ⟨h'.1, h'.2.1, fun j w hj => ?_⟩
  rw [List.getElem?_set] at hj
  by_cases hij : i = j
  · subst hij
    rw [if_pos rfl] at hj
    split at hj
    · cases hj
      exact ⟨h'.2.2 (i, zw_val ad v) List.mem_cons_self, hv⟩
    · cases hj
  · rw [if_neg hij] at hj
    obtain ⟨h1, h2⟩ := h.2.2 j w hj
    refine ⟨h'.2.2 (j, zw_val ad w) (List.mem_cons_of_mem _ (List.mem_filter.mpr ⟨zw_lv_mem.mpr ⟨w, hj, rfl⟩, ?_⟩)), h2⟩
    have e1 : (j == i) = false := by simp; exact fun e => hij e.symm
    have e2 : (j + 1 == i && (zw_val ad w).category == 2) = false := by
      by_cases hji : j + 1 = i
      · subst hji
        have hn : zw_nlo ls[j]? = true := hn
        rw [hj] at hn
        rcases w with z | z | k
        · simp [zw_val, Value.category]
        · cases hn
        · simp [zw_val, Value.category]
      · simp [hji]
    simp [e1, e2]
theorem zw_Ls.set2 {M : zMM} {ad : Nat → Nat} {N : Nat} {ls : List (Option zV)} {lsM ls' : Array Slot} {i : Nat} {v : zV} (h : zw_Ls M ad N ls lsM) (hn : zw_nl ls i = true) (hv : zw_ok N v) (h' : lv_has ls' (zn M) ((i, zw_val ad v) :: (zw_lv ad ls).filter (fun q => !(q.1 == i) && (!(q.1 == i + 1) && !(q.1 + 1 == i && q.2.category == 2))))) : zw_Ls M ad N ((ls.set i (some v)).set (i + 1) none) ls' := by
  refine ⟨h'.1, h'.2.1, fun j w hj => ?_⟩
  rw [List.getElem?_set] at hj
  by_cases hij1 : i + 1 = j
  · subst hij1
    rw [if_pos rfl] at hj
    split at hj
    · cases hj
    · cases hj
  · rw [if_neg hij1, List.getElem?_set] at hj
    by_cases hij : i = j
    · subst hij
      rw [if_pos rfl] at hj
      split at hj
      · cases hj
        exact ⟨h'.2.2 (i, zw_val ad v) List.mem_cons_self, hv⟩
      · cases hj
    · rw [if_neg hij] at hj
      obtain ⟨h1, h2⟩ := h.2.2 j w hj
      refine ⟨h'.2.2 (j, zw_val ad w) (List.mem_cons_of_mem _ (List.mem_filter.mpr ⟨zw_lv_mem.mpr ⟨w, hj, rfl⟩, ?_⟩)), h2⟩
      have e1 : (j == i) = false := by simp; exact fun e => hij e.symm
      have e3 : (j == i + 1) = false := by simp; exact fun e => hij1 e.symm
      have e2 : (j + 1 == i && (zw_val ad w).category == 2) = false := by
        by_cases hji : j + 1 = i
        · subst hji
          have hn : zw_nlo ls[j]? = true := hn
          rw [hj] at hn
          rcases w with z | z | k
          · simp [zw_val, Value.category]
          · cases hn
          · simp [zw_val, Value.category]
        · simp [hji]
      simp [e1, e2, e3]
set_option maxHeartbeats 4000000 in
theorem wp_iadd {l : Launch} {M : zMM} {sh : zSh} {pc : Nat} {ls : List (Option zV)} {st : List zV} {mem : zMem} {bc bs : Nat} {Q : zQ} {a b : Int} (hd : decode (zc M) pc = .ok (.iadd, 1)) (k : zw_Wp l M sh (pc + 1) ls (zI (zwr (a + b)) :: st) mem bc bs Q) : zw_Wp l M sh pc ls (zI b :: zI a :: st) mem bc bs Q := by
  intro p e R s m args below meth c Z G ad0 N0 H locs ad lsM cells slots C X
  obtain ⟨hW, hS, hL, hT, hE⟩ := X
  refine lv_iadd C.1 C.2.1 hd ?_
  rw [zo_add]
  exact k p e R s m args below meth c Z G ad0 N0 H locs ad lsM cells slots C ⟨hW, hS, hL, ⟨zwr_r _, hT.2.2⟩, hE⟩
set_option maxHeartbeats 4000000 in
theorem wp_isub {l : Launch} {M : zMM} {sh : zSh} {pc : Nat} {ls : List (Option zV)} {st : List zV} {mem : zMem} {bc bs : Nat} {Q : zQ} {a b : Int} (hd : decode (zc M) pc = .ok (.isub, 1)) (k : zw_Wp l M sh (pc + 1) ls (zI (zwr (a - b)) :: st) mem bc bs Q) : zw_Wp l M sh pc ls (zI b :: zI a :: st) mem bc bs Q := by
  intro p e R s m args below meth c Z G ad0 N0 H locs ad lsM cells slots C X
  obtain ⟨hW, hS, hL, hT, hE⟩ := X
  refine lv_isub C.1 C.2.1 hd ?_
  rw [zo_sub]
  exact k p e R s m args below meth c Z G ad0 N0 H locs ad lsM cells slots C ⟨hW, hS, hL, ⟨zwr_r _, hT.2.2⟩, hE⟩
set_option maxHeartbeats 4000000 in
theorem wp_imul {l : Launch} {M : zMM} {sh : zSh} {pc : Nat} {ls : List (Option zV)} {st : List zV} {mem : zMem} {bc bs : Nat} {Q : zQ} {a b : Int} (hd : decode (zc M) pc = .ok (.imul, 1)) (k : zw_Wp l M sh (pc + 1) ls (zI (zwr (a * b)) :: st) mem bc bs Q) : zw_Wp l M sh pc ls (zI b :: zI a :: st) mem bc bs Q := by
  intro p e R s m args below meth c Z G ad0 N0 H locs ad lsM cells slots C X
  obtain ⟨hW, hS, hL, hT, hE⟩ := X
  refine lv_imul C.1 C.2.1 hd ?_
  rw [zo_mul]
  exact k p e R s m args below meth c Z G ad0 N0 H locs ad lsM cells slots C ⟨hW, hS, hL, ⟨zwr_r _, hT.2.2⟩, hE⟩
set_option maxHeartbeats 4000000 in
theorem wp_ineg {l : Launch} {M : zMM} {sh : zSh} {pc : Nat} {ls : List (Option zV)} {st : List zV} {mem : zMem} {bc bs : Nat} {Q : zQ} {a : Int} (hd : decode (zc M) pc = .ok (.ineg, 1)) (k : zw_Wp l M sh (pc + 1) ls (zI (zwr (-a)) :: st) mem bc bs Q) : zw_Wp l M sh pc ls (zI a :: st) mem bc bs Q := by
  intro p e R s m args below meth c Z G ad0 N0 H locs ad lsM cells slots C X
  obtain ⟨hW, hS, hL, hT, hE⟩ := X
  refine lv_ineg C.1 C.2.1 hd ?_
  rw [zo_neg]
  exact k p e R s m args below meth c Z G ad0 N0 H locs ad lsM cells slots C ⟨hW, hS, hL, ⟨zwr_r _, hT.2⟩, hE⟩
set_option maxHeartbeats 4000000 in
theorem wp_idiv {l : Launch} {M : zMM} {sh : zSh} {pc : Nat} {ls : List (Option zV)} {st : List zV} {mem : zMem} {bc bs : Nat} {Q : zQ} {a b : Int} (hd : decode (zc M) pc = .ok (.idiv, 1)) (hb : b ≠ 0) (k : zw_Wp l M sh (pc + 1) ls (zI (zwr (a.tdiv b)) :: st) mem bc bs Q) : zw_Wp l M sh pc ls (zI b :: zI a :: st) mem bc bs Q := by
  intro p e R s m args below meth c Z G ad0 N0 H locs ad lsM cells slots C X
  obtain ⟨hW, hS, hL, hT, hE⟩ := X
  have hb1 : zw_r32 b := hT.1
  refine lv_idiv C.1 C.2.1 hd (by rw [← zo_0, zo_eq hb1 z32_0]; exact hb) ?_
  rw [zo_div hT.2.1 hT.1]
  exact k p e R s m args below meth c Z G ad0 N0 H locs ad lsM cells slots C ⟨hW, hS, hL, ⟨zwr_r _, hT.2.2⟩, hE⟩
set_option maxHeartbeats 4000000 in
theorem wp_irem {l : Launch} {M : zMM} {sh : zSh} {pc : Nat} {ls : List (Option zV)} {st : List zV} {mem : zMem} {bc bs : Nat} {Q : zQ} {a b : Int} (hd : decode (zc M) pc = .ok (.irem, 1)) (hb : b ≠ 0) (k : zw_Wp l M sh (pc + 1) ls (zI (a.tmod b) :: st) mem bc bs Q) : zw_Wp l M sh pc ls (zI b :: zI a :: st) mem bc bs Q := by
  intro p e R s m args below meth c Z G ad0 N0 H locs ad lsM cells slots C X
  obtain ⟨hW, hS, hL, hT, hE⟩ := X
  have hb1 : zw_r32 b := hT.1
  have ha1 : zw_r32 a := hT.2.1
  refine lv_irem C.1 C.2.1 hd (by rw [← zo_0, zo_eq hb1 z32_0]; exact hb) ?_
  rw [zo_rem hT.2.1 hT.1]
  have hr : zw_r32 (a.tmod b) := by
    rw [← zt_of ha1, ← zt_of hb1, ← Int32.toInt_mod]
    exact zr_of _
  exact k p e R s m args below meth c Z G ad0 N0 H locs ad lsM cells slots C ⟨hW, hS, hL, ⟨hr, hT.2.2⟩, hE⟩
set_option maxHeartbeats 4000000 in
theorem wp_iand {l : Launch} {M : zMM} {sh : zSh} {pc : Nat} {ls : List (Option zV)} {st : List zV} {mem : zMem} {bc bs : Nat} {Q : zQ} {a b : Int} (hd : decode (zc M) pc = .ok (.iand, 1)) (k : zw_Wp l M sh (pc + 1) ls (zI (Int32.ofInt a &&& Int32.ofInt b).toInt :: st) mem bc bs Q) : zw_Wp l M sh pc ls (zI b :: zI a :: st) mem bc bs Q := by
  intro p e R s m args below meth c Z G ad0 N0 H locs ad lsM cells slots C X
  obtain ⟨hW, hS, hL, hT, hE⟩ := X
  refine lv_iand C.1 C.2.1 hd ?_
  rw [← Int32.ofInt_toInt (Int32.ofInt a &&& Int32.ofInt b)]
  exact k p e R s m args below meth c Z G ad0 N0 H locs ad lsM cells slots C ⟨hW, hS, hL, ⟨zr_of _, hT.2.2⟩, hE⟩
set_option maxHeartbeats 4000000 in
theorem wp_ior {l : Launch} {M : zMM} {sh : zSh} {pc : Nat} {ls : List (Option zV)} {st : List zV} {mem : zMem} {bc bs : Nat} {Q : zQ} {a b : Int} (hd : decode (zc M) pc = .ok (.ior, 1)) (k : zw_Wp l M sh (pc + 1) ls (zI (Int32.ofInt a ||| Int32.ofInt b).toInt :: st) mem bc bs Q) : zw_Wp l M sh pc ls (zI b :: zI a :: st) mem bc bs Q := by
  intro p e R s m args below meth c Z G ad0 N0 H locs ad lsM cells slots C X
  obtain ⟨hW, hS, hL, hT, hE⟩ := X
  refine lv_ior C.1 C.2.1 hd ?_
  rw [← Int32.ofInt_toInt (Int32.ofInt a ||| Int32.ofInt b)]
  exact k p e R s m args below meth c Z G ad0 N0 H locs ad lsM cells slots C ⟨hW, hS, hL, ⟨zr_of _, hT.2.2⟩, hE⟩
set_option maxHeartbeats 4000000 in
theorem wp_ixor {l : Launch} {M : zMM} {sh : zSh} {pc : Nat} {ls : List (Option zV)} {st : List zV} {mem : zMem} {bc bs : Nat} {Q : zQ} {a b : Int} (hd : decode (zc M) pc = .ok (.ixor, 1)) (k : zw_Wp l M sh (pc + 1) ls (zI (Int32.ofInt a ^^^ Int32.ofInt b).toInt :: st) mem bc bs Q) : zw_Wp l M sh pc ls (zI b :: zI a :: st) mem bc bs Q := by
  intro p e R s m args below meth c Z G ad0 N0 H locs ad lsM cells slots C X
  obtain ⟨hW, hS, hL, hT, hE⟩ := X
  refine lv_ixor C.1 C.2.1 hd ?_
  rw [← Int32.ofInt_toInt (Int32.ofInt a ^^^ Int32.ofInt b)]
  exact k p e R s m args below meth c Z G ad0 N0 H locs ad lsM cells slots C ⟨hW, hS, hL, ⟨zr_of _, hT.2.2⟩, hE⟩
set_option maxHeartbeats 4000000 in
theorem wp_ishl {l : Launch} {M : zMM} {sh : zSh} {pc : Nat} {ls : List (Option zV)} {st : List zV} {mem : zMem} {bc bs : Nat} {Q : zQ} {a b : Int} (hd : decode (zc M) pc = .ok (.ishl, 1)) (k : zw_Wp l M sh (pc + 1) ls (zI (Int32.ofInt a <<< (Int32.ofInt b &&& 31)).toInt :: st) mem bc bs Q) : zw_Wp l M sh pc ls (zI b :: zI a :: st) mem bc bs Q := by
  intro p e R s m args below meth c Z G ad0 N0 H locs ad lsM cells slots C X
  obtain ⟨hW, hS, hL, hT, hE⟩ := X
  refine lv_ishl C.1 C.2.1 hd ?_
  rw [← Int32.ofInt_toInt (Int32.ofInt a <<< (Int32.ofInt b &&& 31))]
  exact k p e R s m args below meth c Z G ad0 N0 H locs ad lsM cells slots C ⟨hW, hS, hL, ⟨zr_of _, hT.2.2⟩, hE⟩
set_option maxHeartbeats 4000000 in
theorem wp_ishr {l : Launch} {M : zMM} {sh : zSh} {pc : Nat} {ls : List (Option zV)} {st : List zV} {mem : zMem} {bc bs : Nat} {Q : zQ} {a b : Int} (hd : decode (zc M) pc = .ok (.ishr, 1)) (k : zw_Wp l M sh (pc + 1) ls (zI (Int32.ofInt a >>> (Int32.ofInt b &&& 31)).toInt :: st) mem bc bs Q) : zw_Wp l M sh pc ls (zI b :: zI a :: st) mem bc bs Q := by
  intro p e R s m args below meth c Z G ad0 N0 H locs ad lsM cells slots C X
  obtain ⟨hW, hS, hL, hT, hE⟩ := X
  refine lv_ishr C.1 C.2.1 hd ?_
  rw [← Int32.ofInt_toInt (Int32.ofInt a >>> (Int32.ofInt b &&& 31))]
  exact k p e R s m args below meth c Z G ad0 N0 H locs ad lsM cells slots C ⟨hW, hS, hL, ⟨zr_of _, hT.2.2⟩, hE⟩
set_option maxHeartbeats 4000000 in
theorem wp_iushr {l : Launch} {M : zMM} {sh : zSh} {pc : Nat} {ls : List (Option zV)} {st : List zV} {mem : zMem} {bc bs : Nat} {Q : zQ} {a b : Int} (hd : decode (zc M) pc = .ok (.iushr, 1)) (k : zw_Wp l M sh (pc + 1) ls (zI (((Int32.ofInt a).toUInt32 >>> ((Int32.ofInt b).toUInt32 &&& Int32.toUInt32 31)).toInt32).toInt :: st) mem bc bs Q) : zw_Wp l M sh pc ls (zI b :: zI a :: st) mem bc bs Q := by
  intro p e R s m args below meth c Z G ad0 N0 H locs ad lsM cells slots C X
  obtain ⟨hW, hS, hL, hT, hE⟩ := X
  refine lv_iushr C.1 C.2.1 hd (v := Int32.ofInt (((Int32.ofInt a).toUInt32 >>> ((Int32.ofInt b).toUInt32 &&& Int32.toUInt32 31)).toInt32).toInt) (Int32.ofInt_toInt _).symm ?_
  exact k p e R s m args below meth c Z G ad0 N0 H locs ad lsM cells slots C ⟨hW, hS, hL, ⟨zr_of _, hT.2.2⟩, hE⟩
set_option maxHeartbeats 4000000 in
theorem wp_iconst {l : Launch} {M : zMM} {sh : zSh} {pc : Nat} {ls : List (Option zV)} {st : List zV} {mem : zMem} {bc bs : Nat} {Q : zQ} {n : Int} (hd : decode (zc M) pc = .ok (.iconst n, 1)) (hn : zw_r32 n) (k : zw_Wp l M sh (pc + 1) ls (zI n :: st) mem bc bs Q) : zw_Wp l M sh pc ls st mem bc bs Q := by
  intro p e R s m args below meth c Z G ad0 N0 H locs ad lsM cells slots C X
  obtain ⟨hW, hS, hL, hT, hE⟩ := X
  refine lv_iconst (v := Int32.ofInt n) C.1 C.2.1 hd rfl ?_
  exact k p e R s m args below meth c Z G ad0 N0 H locs ad lsM cells slots C ⟨hW, hS, hL, ⟨hn, hT⟩, hE⟩
set_option maxHeartbeats 4000000 in
theorem wp_bipush {l : Launch} {M : zMM} {sh : zSh} {pc : Nat} {ls : List (Option zV)} {st : List zV} {mem : zMem} {bc bs : Nat} {Q : zQ} {n : Int} (hd : decode (zc M) pc = .ok (.bipush n, 2)) (hn : -128 ≤ n ∧ n < 128) (k : zw_Wp l M sh (pc + 2) ls (zI n :: st) mem bc bs Q) : zw_Wp l M sh pc ls st mem bc bs Q := by
  intro p e R s m args below meth c Z G ad0 N0 H locs ad lsM cells slots C X
  obtain ⟨hW, hS, hL, hT, hE⟩ := X
  have e9 : (Int8.ofInt n).toInt32 = Int32.ofInt n := by
    apply Int32.toInt_inj.mp
    rw [Int8.toInt_toInt32, Int8.toInt_ofInt_of_le (by omega) (by omega), zt_of (by unfold zw_r32; omega)]
  refine lv_bipush (v := Int32.ofInt n) C.1 C.2.1 hd e9 ?_
  exact k p e R s m args below meth c Z G ad0 N0 H locs ad lsM cells slots C ⟨hW, hS, hL, ⟨(by show zw_r32 n; unfold zw_r32; omega), hT⟩, hE⟩
set_option maxHeartbeats 4000000 in
theorem wp_sipush {l : Launch} {M : zMM} {sh : zSh} {pc : Nat} {ls : List (Option zV)} {st : List zV} {mem : zMem} {bc bs : Nat} {Q : zQ} {n : Int} (hd : decode (zc M) pc = .ok (.sipush n, 3)) (hn : -32768 ≤ n ∧ n < 32768) (k : zw_Wp l M sh (pc + 3) ls (zI n :: st) mem bc bs Q) : zw_Wp l M sh pc ls st mem bc bs Q := by
  intro p e R s m args below meth c Z G ad0 N0 H locs ad lsM cells slots C X
  obtain ⟨hW, hS, hL, hT, hE⟩ := X
  have e9 : (Int16.ofInt n).toInt32 = Int32.ofInt n := by
    apply Int32.toInt_inj.mp
    rw [Int16.toInt_toInt32, Int16.toInt_ofInt_of_le (by omega) (by omega), zt_of (by unfold zw_r32; omega)]
  refine lv_sipush (v := Int32.ofInt n) C.1 C.2.1 hd e9 ?_
  exact k p e R s m args below meth c Z G ad0 N0 H locs ad lsM cells slots C ⟨hW, hS, hL, ⟨(by show zw_r32 n; unfold zw_r32; omega), hT⟩, hE⟩
set_option maxHeartbeats 4000000 in
theorem wp_lconst {l : Launch} {M : zMM} {sh : zSh} {pc : Nat} {ls : List (Option zV)} {st : List zV} {mem : zMem} {bc bs : Nat} {Q : zQ} {n : Fin 2} (hd : decode (zc M) pc = .ok (.lconst n, 1)) (k : zw_Wp l M sh (pc + 1) ls (zJ (n : Nat) :: st) mem bc bs Q) : zw_Wp l M sh pc ls st mem bc bs Q := by
  intro p e R s m args below meth c Z G ad0 N0 H locs ad lsM cells slots C X
  obtain ⟨hW, hS, hL, hT, hE⟩ := X
  refine lv_lconst (v := Int64.ofInt (n : Nat)) C.1 C.2.1 hd Int64.ofInt_eq_ofNat.symm ?_
  exact k p e R s m args below meth c Z G ad0 N0 H locs ad lsM cells slots C ⟨hW, hS, hL, ⟨(by show zw_r64 _; have := n.isLt; unfold zw_r64; omega), hT⟩, hE⟩
set_option maxHeartbeats 4000000 in
theorem wp_ldc {l : Launch} {M : zMM} {sh : zSh} {pc : Nat} {ls : List (Option zV)} {st : List zV} {mem : zMem} {bc bs : Nat} {Q : zQ} {idx : Nat} {v : Int32} (hd : decode (zc M) pc = .ok (.ldc idx, 2)) (hc : Cond.constant (zy M).cls idx v ∈ lw_g) (k : zw_Wp l M sh (pc + 2) ls (zI v.toInt :: st) mem bc bs Q) : zw_Wp l M sh pc ls st mem bc bs Q := by
  intro p e R s m args below meth c Z G ad0 N0 H locs ad lsM cells slots C X
  obtain ⟨hW, hS, hL, hT, hE⟩ := X
  refine lv_ldc C.1 C.2.1 C.2.2.2.1 (C.2.2.2.2.1 _ hc) hd ?_
  rw [← Int32.ofInt_toInt v]
  simp only [Int32.ofInt_toInt] at k ⊢
  exact (fun q => by simpa [zw_val, Int32.ofInt_toInt] using q) (k p e R s m args below meth c Z G ad0 N0 H locs ad lsM cells slots C ⟨hW, hS, hL, ⟨zr_of _, hT⟩, hE⟩)
set_option maxHeartbeats 4000000 in
theorem wp_ldc_w {l : Launch} {M : zMM} {sh : zSh} {pc : Nat} {ls : List (Option zV)} {st : List zV} {mem : zMem} {bc bs : Nat} {Q : zQ} {idx : Nat} {v : Int32} (hd : decode (zc M) pc = .ok (.ldc_w idx, 3)) (hc : Cond.constant (zy M).cls idx v ∈ lw_g) (k : zw_Wp l M sh (pc + 3) ls (zI v.toInt :: st) mem bc bs Q) : zw_Wp l M sh pc ls st mem bc bs Q := by
  intro p e R s m args below meth c Z G ad0 N0 H locs ad lsM cells slots C X
  obtain ⟨hW, hS, hL, hT, hE⟩ := X
  refine lv_ldcw C.1 C.2.1 C.2.2.2.1 (C.2.2.2.2.1 _ hc) hd ?_
  rw [← Int32.ofInt_toInt v]
  simp only [Int32.ofInt_toInt] at k ⊢
  exact (fun q => by simpa [zw_val, Int32.ofInt_toInt] using q) (k p e R s m args below meth c Z G ad0 N0 H locs ad lsM cells slots C ⟨hW, hS, hL, ⟨zr_of _, hT⟩, hE⟩)
set_option maxHeartbeats 4000000 in
theorem wp_ldc2 {l : Launch} {M : zMM} {sh : zSh} {pc : Nat} {ls : List (Option zV)} {st : List zV} {mem : zMem} {bc bs : Nat} {Q : zQ} {idx : Nat} {v : Int64} (hd : decode (zc M) pc = .ok (.ldc2_w idx, 3)) (hc : Cond.constantLong (zy M).cls idx v ∈ lw_g) (k : zw_Wp l M sh (pc + 3) ls (zJ v.toInt :: st) mem bc bs Q) : zw_Wp l M sh pc ls st mem bc bs Q := by
  intro p e R s m args below meth c Z G ad0 N0 H locs ad lsM cells slots C X
  obtain ⟨hW, hS, hL, hT, hE⟩ := X
  refine lv_ldc2 C.1 C.2.1 C.2.2.2.1 (C.2.2.2.2.1 _ hc) hd ?_
  exact (fun q => by simpa [zw_val, Int64.ofInt_toInt] using q) (k p e R s m args below meth c Z G ad0 N0 H locs ad lsM cells slots C ⟨hW, hS, hL, ⟨zr_ofl _, hT⟩, hE⟩)
set_option maxHeartbeats 4000000 in
theorem wp_iload_n {l : Launch} {M : zMM} {sh : zSh} {pc : Nat} {ls : List (Option zV)} {st : List zV} {mem : zMem} {bc bs : Nat} {Q : zQ} {z : Int} {k0 : Fin 4} (hd : decode (zc M) pc = .ok (.iload_n k0, 1)) (hl : ls[(k0 : Nat)]? = some (some (zI z))) (k : zw_Wp l M sh (pc + 1) ls (zI z :: st) mem bc bs Q) : zw_Wp l M sh pc ls st mem bc bs Q := by
  intro p e R s m args below meth c Z G ad0 N0 H locs ad lsM cells slots C X
  obtain ⟨hW, hS, hL, hT, hE⟩ := X
  obtain ⟨h1, h2⟩ := hL.get hl
  refine lv_iload_n C.1 C.2.1 hd rfl h1 ?_
  exact k p e R s m args below meth c Z G ad0 N0 H locs ad lsM cells slots C ⟨hW, hS, hL, ⟨h2, hT⟩, hE⟩
set_option maxHeartbeats 4000000 in
theorem wp_iload {l : Launch} {M : zMM} {sh : zSh} {pc : Nat} {ls : List (Option zV)} {st : List zV} {mem : zMem} {bc bs : Nat} {Q : zQ} {z : Int} {k0 : Nat} (hd : decode (zc M) pc = .ok (.iload k0, 2)) (hl : ls[k0]? = some (some (zI z))) (k : zw_Wp l M sh (pc + 2) ls (zI z :: st) mem bc bs Q) : zw_Wp l M sh pc ls st mem bc bs Q := by
  intro p e R s m args below meth c Z G ad0 N0 H locs ad lsM cells slots C X
  obtain ⟨hW, hS, hL, hT, hE⟩ := X
  obtain ⟨h1, h2⟩ := hL.get hl
  refine lv_iload C.1 C.2.1 hd h1 ?_
  exact k p e R s m args below meth c Z G ad0 N0 H locs ad lsM cells slots C ⟨hW, hS, hL, ⟨h2, hT⟩, hE⟩
set_option maxHeartbeats 4000000 in
theorem wp_istore_n {l : Launch} {M : zMM} {sh : zSh} {pc : Nat} {ls : List (Option zV)} {st : List zV} {mem : zMem} {bc bs : Nat} {Q : zQ} {z : Int} {k0 : Fin 4} {ls2 : List (Option zV)} (hd : decode (zc M) pc = .ok (.istore_n k0, 1)) (hn : zw_nl ls (k0 : Nat) = true) (hk : (k0 : Nat) < zn M) (hs : ls.set (k0 : Nat) (some (zI z)) = ls2) (k : zw_Wp l M sh (pc + 1) ls2 st mem bc bs Q) : zw_Wp l M sh pc ls (zI z :: st) mem bc bs Q := by
  intro p e R s m args below meth c Z G ad0 N0 H locs ad lsM cells slots C X
  obtain ⟨hW, hS, hL, hT, hE⟩ := X
  refine lv_istore_n C.1 C.2.1 hd rfl hL.has hk rfl (fun ls9 h9 => ?_)
  exact k p e R s m args below meth c Z G ad0 N0 H locs ad ls9 cells slots C ⟨hW, hS, hs ▸ hL.set1 hn hT.1 h9, hT.2, hE⟩
set_option maxHeartbeats 4000000 in
theorem wp_istore {l : Launch} {M : zMM} {sh : zSh} {pc : Nat} {ls : List (Option zV)} {st : List zV} {mem : zMem} {bc bs : Nat} {Q : zQ} {z : Int} {k0 : Nat} {ls2 : List (Option zV)} (hd : decode (zc M) pc = .ok (.istore k0, 2)) (hn : zw_nl ls k0 = true) (hk : k0 < zn M) (hs : ls.set k0 (some (zI z)) = ls2) (k : zw_Wp l M sh (pc + 2) ls2 st mem bc bs Q) : zw_Wp l M sh pc ls (zI z :: st) mem bc bs Q := by
  intro p e R s m args below meth c Z G ad0 N0 H locs ad lsM cells slots C X
  obtain ⟨hW, hS, hL, hT, hE⟩ := X
  refine lv_istore C.1 C.2.1 hd hL.has hk rfl (fun ls9 h9 => ?_)
  exact k p e R s m args below meth c Z G ad0 N0 H locs ad ls9 cells slots C ⟨hW, hS, hs ▸ hL.set1 hn hT.1 h9, hT.2, hE⟩
set_option maxHeartbeats 4000000 in
theorem wp_aload_n {l : Launch} {M : zMM} {sh : zSh} {pc : Nat} {ls : List (Option zV)} {st : List zV} {mem : zMem} {bc bs : Nat} {Q : zQ} {z : Nat} {k0 : Fin 4} (hd : decode (zc M) pc = .ok (.aload_n k0, 1)) (hl : ls[(k0 : Nat)]? = some (some (zR z))) (k : zw_Wp l M sh (pc + 1) ls (zR z :: st) mem bc bs Q) : zw_Wp l M sh pc ls st mem bc bs Q := by
  intro p e R s m args below meth c Z G ad0 N0 H locs ad lsM cells slots C X
  obtain ⟨hW, hS, hL, hT, hE⟩ := X
  obtain ⟨h1, h2⟩ := hL.get hl
  refine lv_aload_n C.1 C.2.1 hd rfl h1 ?_
  exact k p e R s m args below meth c Z G ad0 N0 H locs ad lsM cells slots C ⟨hW, hS, hL, ⟨h2, hT⟩, hE⟩
set_option maxHeartbeats 4000000 in
theorem wp_aload {l : Launch} {M : zMM} {sh : zSh} {pc : Nat} {ls : List (Option zV)} {st : List zV} {mem : zMem} {bc bs : Nat} {Q : zQ} {z : Nat} {k0 : Nat} (hd : decode (zc M) pc = .ok (.aload k0, 2)) (hl : ls[k0]? = some (some (zR z))) (k : zw_Wp l M sh (pc + 2) ls (zR z :: st) mem bc bs Q) : zw_Wp l M sh pc ls st mem bc bs Q := by
  intro p e R s m args below meth c Z G ad0 N0 H locs ad lsM cells slots C X
  obtain ⟨hW, hS, hL, hT, hE⟩ := X
  obtain ⟨h1, h2⟩ := hL.get hl
  refine lv_aload C.1 C.2.1 hd h1 ?_
  exact k p e R s m args below meth c Z G ad0 N0 H locs ad lsM cells slots C ⟨hW, hS, hL, ⟨h2, hT⟩, hE⟩
set_option maxHeartbeats 4000000 in
theorem wp_astore_n {l : Launch} {M : zMM} {sh : zSh} {pc : Nat} {ls : List (Option zV)} {st : List zV} {mem : zMem} {bc bs : Nat} {Q : zQ} {z : Nat} {k0 : Fin 4} {ls2 : List (Option zV)} (hd : decode (zc M) pc = .ok (.astore_n k0, 1)) (hn : zw_nl ls (k0 : Nat) = true) (hk : (k0 : Nat) < zn M) (hs : ls.set (k0 : Nat) (some (zR z)) = ls2) (k : zw_Wp l M sh (pc + 1) ls2 st mem bc bs Q) : zw_Wp l M sh pc ls (zR z :: st) mem bc bs Q := by
  intro p e R s m args below meth c Z G ad0 N0 H locs ad lsM cells slots C X
  obtain ⟨hW, hS, hL, hT, hE⟩ := X
  refine lv_astore_n C.1 C.2.1 hd rfl hL.has hk rfl (fun ls9 h9 => ?_)
  exact k p e R s m args below meth c Z G ad0 N0 H locs ad ls9 cells slots C ⟨hW, hS, hs ▸ hL.set1 hn hT.1 h9, hT.2, hE⟩
set_option maxHeartbeats 4000000 in
theorem wp_astore {l : Launch} {M : zMM} {sh : zSh} {pc : Nat} {ls : List (Option zV)} {st : List zV} {mem : zMem} {bc bs : Nat} {Q : zQ} {z : Nat} {k0 : Nat} {ls2 : List (Option zV)} (hd : decode (zc M) pc = .ok (.astore k0, 2)) (hn : zw_nl ls k0 = true) (hk : k0 < zn M) (hs : ls.set k0 (some (zR z)) = ls2) (k : zw_Wp l M sh (pc + 2) ls2 st mem bc bs Q) : zw_Wp l M sh pc ls (zR z :: st) mem bc bs Q := by
  intro p e R s m args below meth c Z G ad0 N0 H locs ad lsM cells slots C X
  obtain ⟨hW, hS, hL, hT, hE⟩ := X
  refine lv_astore C.1 C.2.1 hd hL.has hk rfl (fun ls9 h9 => ?_)
  exact k p e R s m args below meth c Z G ad0 N0 H locs ad ls9 cells slots C ⟨hW, hS, hs ▸ hL.set1 hn hT.1 h9, hT.2, hE⟩
set_option maxHeartbeats 4000000 in
theorem wp_lload_n {l : Launch} {M : zMM} {sh : zSh} {pc : Nat} {ls : List (Option zV)} {st : List zV} {mem : zMem} {bc bs : Nat} {Q : zQ} {z : Int} {k0 : Fin 4} (hd : decode (zc M) pc = .ok (.lload_n k0, 1)) (hl : ls[(k0 : Nat)]? = some (some (zJ z))) (k : zw_Wp l M sh (pc + 1) ls (zJ z :: st) mem bc bs Q) : zw_Wp l M sh pc ls st mem bc bs Q := by
  intro p e R s m args below meth c Z G ad0 N0 H locs ad lsM cells slots C X
  obtain ⟨hW, hS, hL, hT, hE⟩ := X
  obtain ⟨h1, h2⟩ := hL.get hl
  refine lv_lload_n C.1 C.2.1 hd rfl h1 ?_
  exact k p e R s m args below meth c Z G ad0 N0 H locs ad lsM cells slots C ⟨hW, hS, hL, ⟨h2, hT⟩, hE⟩
set_option maxHeartbeats 4000000 in
theorem wp_lload {l : Launch} {M : zMM} {sh : zSh} {pc : Nat} {ls : List (Option zV)} {st : List zV} {mem : zMem} {bc bs : Nat} {Q : zQ} {z : Int} {k0 : Nat} (hd : decode (zc M) pc = .ok (.lload k0, 2)) (hl : ls[k0]? = some (some (zJ z))) (k : zw_Wp l M sh (pc + 2) ls (zJ z :: st) mem bc bs Q) : zw_Wp l M sh pc ls st mem bc bs Q := by
  intro p e R s m args below meth c Z G ad0 N0 H locs ad lsM cells slots C X
  obtain ⟨hW, hS, hL, hT, hE⟩ := X
  obtain ⟨h1, h2⟩ := hL.get hl
  refine lv_lload C.1 C.2.1 hd h1 ?_
  exact k p e R s m args below meth c Z G ad0 N0 H locs ad lsM cells slots C ⟨hW, hS, hL, ⟨h2, hT⟩, hE⟩
set_option maxHeartbeats 4000000 in
theorem wp_lstore_n {l : Launch} {M : zMM} {sh : zSh} {pc : Nat} {ls : List (Option zV)} {st : List zV} {mem : zMem} {bc bs : Nat} {Q : zQ} {z : Int} {k0 : Fin 4} {ls2 : List (Option zV)} (hd : decode (zc M) pc = .ok (.lstore_n k0, 1)) (hn : zw_nl ls (k0 : Nat) = true) (hk : (k0 : Nat) + 1 < zn M) (hs : (ls.set (k0 : Nat) (some (zJ z))).set ((k0 : Nat) + 1) none = ls2) (k : zw_Wp l M sh (pc + 1) ls2 st mem bc bs Q) : zw_Wp l M sh pc ls (zJ z :: st) mem bc bs Q := by
  intro p e R s m args below meth c Z G ad0 N0 H locs ad lsM cells slots C X
  obtain ⟨hW, hS, hL, hT, hE⟩ := X
  refine lv_lstore_n C.1 C.2.1 hd rfl hL.has hk rfl (fun ls9 h9 => ?_)
  exact k p e R s m args below meth c Z G ad0 N0 H locs ad ls9 cells slots C ⟨hW, hS, hs ▸ hL.set2 hn hT.1 h9, hT.2, hE⟩
set_option maxHeartbeats 4000000 in
theorem wp_lstore {l : Launch} {M : zMM} {sh : zSh} {pc : Nat} {ls : List (Option zV)} {st : List zV} {mem : zMem} {bc bs : Nat} {Q : zQ} {z : Int} {k0 : Nat} {ls2 : List (Option zV)} (hd : decode (zc M) pc = .ok (.lstore k0, 2)) (hn : zw_nl ls k0 = true) (hk : k0 + 1 < zn M) (hs : (ls.set k0 (some (zJ z))).set (k0 + 1) none = ls2) (k : zw_Wp l M sh (pc + 2) ls2 st mem bc bs Q) : zw_Wp l M sh pc ls (zJ z :: st) mem bc bs Q := by
  intro p e R s m args below meth c Z G ad0 N0 H locs ad lsM cells slots C X
  obtain ⟨hW, hS, hL, hT, hE⟩ := X
  refine lv_lstore C.1 C.2.1 hd hL.has hk rfl (fun ls9 h9 => ?_)
  exact k p e R s m args below meth c Z G ad0 N0 H locs ad ls9 cells slots C ⟨hW, hS, hs ▸ hL.set2 hn hT.1 h9, hT.2, hE⟩
set_option maxHeartbeats 4000000 in
theorem wp_iinc {l : Launch} {M : zMM} {sh : zSh} {pc : Nat} {ls : List (Option zV)} {st : List zV} {mem : zMem} {bc bs : Nat} {Q : zQ} {k0 : Nat} {n z : Int} {ls2 : List (Option zV)} (hd : decode (zc M) pc = .ok (.iinc k0 n, 3)) (hl : ls[k0]? = some (some (zI z))) (hn : zw_nl ls k0 = true) (hk : k0 < zn M) (hs : ls.set k0 (some (zI (zwr (z + n)))) = ls2) (k : zw_Wp l M sh (pc + 3) ls2 st mem bc bs Q) : zw_Wp l M sh pc ls st mem bc bs Q := by
  intro p e R s m args below meth c Z G ad0 N0 H locs ad lsM cells slots C X
  obtain ⟨hW, hS, hL, hT, hE⟩ := X
  obtain ⟨h1, h2⟩ := hL.get hl
  obtain ⟨j, hj⟩ := List.getElem?_of_mem (zw_lv_mem.mpr ⟨zI z, hl, rfl⟩ : ((k0, zw_val ad (zI z)) ∈ zw_lv ad ls))
  refine lv_iinc (v := Int32.ofInt (zwr (z + n))) C.1 C.2.1 hd hL.has hj (zo_add z n) hk rfl (fun ls9 h9 => ?_)
  exact k p e R s m args below meth c Z G ad0 N0 H locs ad ls9 cells slots C ⟨hW, hS, hs ▸ hL.set1 (v := zI (zwr (z + n))) hn (zwr_r _) h9, hT, hE⟩
set_option maxHeartbeats 4000000 in
theorem wp_dup {l : Launch} {M : zMM} {sh : zSh} {pc : Nat} {ls : List (Option zV)} {st : List zV} {mem : zMem} {bc bs : Nat} {Q : zQ} {v : zV} (hd : decode (zc M) pc = .ok (.dup, 1)) (hv : zw_cat v = 1) (k : zw_Wp l M sh (pc + 1) ls (v :: v :: st) mem bc bs Q) : zw_Wp l M sh pc ls (v :: st) mem bc bs Q := by
  intro p e R s m args below meth c Z G ad0 N0 H locs ad lsM cells slots C X
  obtain ⟨hW, hS, hL, hT, hE⟩ := X
  refine lv_dup C.1 C.2.1 hd (by rw [zw_catv]; exact hv) ?_
  exact k p e R s m args below meth c Z G ad0 N0 H locs ad lsM cells slots C ⟨hW, hS, hL, ⟨hT.1, hT⟩, hE⟩
set_option maxHeartbeats 4000000 in
theorem wp_dup2 {l : Launch} {M : zMM} {sh : zSh} {pc : Nat} {ls : List (Option zV)} {st : List zV} {mem : zMem} {bc bs : Nat} {Q : zQ} {v w : zV} (hd : decode (zc M) pc = .ok (.dup2, 1)) (hv : zw_cat v = 1) (hw : zw_cat w = 1) (k : zw_Wp l M sh (pc + 1) ls (v :: w :: v :: w :: st) mem bc bs Q) : zw_Wp l M sh pc ls (v :: w :: st) mem bc bs Q := by
  intro p e R s m args below meth c Z G ad0 N0 H locs ad lsM cells slots C X
  obtain ⟨hW, hS, hL, hT, hE⟩ := X
  refine lv_dup2_11 C.1 C.2.1 hd (by rw [zw_catv]; exact hv) (by rw [zw_catv]; exact hw) ?_
  exact k p e R s m args below meth c Z G ad0 N0 H locs ad lsM cells slots C ⟨hW, hS, hL, ⟨hT.1, hT.2.1, hT⟩, hE⟩
set_option maxHeartbeats 4000000 in
theorem wp_icmp_eq {l : Launch} {M : zMM} {sh : zSh} {pc : Nat} {ls : List (Option zV)} {st : List zV} {mem : zMem} {bc bs : Nat} {Q : zQ} {a b : Int} {off : Int} {tgt : Nat} (hd : decode (zc M) pc = .ok (.if_icmp .eq off, 3)) (ht : (pc : Int) + off = (tgt : Int)) (kt : a = b → zw_Wp l M sh tgt ls st mem bc bs Q) (kf : ¬ (a = b) → zw_Wp l M sh (pc + 3) ls st mem bc bs Q) : zw_Wp l M sh pc ls (zI b :: zI a :: st) mem bc bs Q := by
  intro p e R s m args below meth c Z G ad0 N0 H locs ad lsM cells slots C X
  obtain ⟨hW, hS, hL, hT, hE⟩ := X
  have ha : zw_r32 a := hT.2.1
  have hb : zw_r32 b := hT.1
  refine lv_icmp_eq C.1 C.2.1 hd ht (fun h => kt ((zo_eq ha hb).mp h) p e R s m args below meth c Z G ad0 N0 H locs ad lsM cells slots C ⟨hW, hS, hL, hT.2.2, hE⟩) (fun h => kf (fun q => h ((zo_eq ha hb).mpr q)) p e R s m args below meth c Z G ad0 N0 H locs ad lsM cells slots C ⟨hW, hS, hL, hT.2.2, hE⟩)
set_option maxHeartbeats 4000000 in
theorem wp_icmp_lt {l : Launch} {M : zMM} {sh : zSh} {pc : Nat} {ls : List (Option zV)} {st : List zV} {mem : zMem} {bc bs : Nat} {Q : zQ} {a b : Int} {off : Int} {tgt : Nat} (hd : decode (zc M) pc = .ok (.if_icmp .lt off, 3)) (ht : (pc : Int) + off = (tgt : Int)) (kt : a < b → zw_Wp l M sh tgt ls st mem bc bs Q) (kf : ¬ (a < b) → zw_Wp l M sh (pc + 3) ls st mem bc bs Q) : zw_Wp l M sh pc ls (zI b :: zI a :: st) mem bc bs Q := by
  intro p e R s m args below meth c Z G ad0 N0 H locs ad lsM cells slots C X
  obtain ⟨hW, hS, hL, hT, hE⟩ := X
  have ha : zw_r32 a := hT.2.1
  have hb : zw_r32 b := hT.1
  refine lv_icmp_lt C.1 C.2.1 hd ht (fun h => kt ((zo_lt ha hb).mp h) p e R s m args below meth c Z G ad0 N0 H locs ad lsM cells slots C ⟨hW, hS, hL, hT.2.2, hE⟩) (fun h => kf (fun q => h ((zo_lt ha hb).mpr q)) p e R s m args below meth c Z G ad0 N0 H locs ad lsM cells slots C ⟨hW, hS, hL, hT.2.2, hE⟩)
set_option maxHeartbeats 4000000 in
theorem wp_icmp_ge {l : Launch} {M : zMM} {sh : zSh} {pc : Nat} {ls : List (Option zV)} {st : List zV} {mem : zMem} {bc bs : Nat} {Q : zQ} {a b : Int} {off : Int} {tgt : Nat} (hd : decode (zc M) pc = .ok (.if_icmp .ge off, 3)) (ht : (pc : Int) + off = (tgt : Int)) (kt : b ≤ a → zw_Wp l M sh tgt ls st mem bc bs Q) (kf : ¬ (b ≤ a) → zw_Wp l M sh (pc + 3) ls st mem bc bs Q) : zw_Wp l M sh pc ls (zI b :: zI a :: st) mem bc bs Q := by
  intro p e R s m args below meth c Z G ad0 N0 H locs ad lsM cells slots C X
  obtain ⟨hW, hS, hL, hT, hE⟩ := X
  have ha : zw_r32 a := hT.2.1
  have hb : zw_r32 b := hT.1
  refine lv_icmp_ge C.1 C.2.1 hd ht (fun h => kt ((zo_le hb ha).mp h) p e R s m args below meth c Z G ad0 N0 H locs ad lsM cells slots C ⟨hW, hS, hL, hT.2.2, hE⟩) (fun h => kf (fun q => h ((zo_le hb ha).mpr q)) p e R s m args below meth c Z G ad0 N0 H locs ad lsM cells slots C ⟨hW, hS, hL, hT.2.2, hE⟩)
set_option maxHeartbeats 4000000 in
theorem wp_icmp_gt {l : Launch} {M : zMM} {sh : zSh} {pc : Nat} {ls : List (Option zV)} {st : List zV} {mem : zMem} {bc bs : Nat} {Q : zQ} {a b : Int} {off : Int} {tgt : Nat} (hd : decode (zc M) pc = .ok (.if_icmp .gt off, 3)) (ht : (pc : Int) + off = (tgt : Int)) (kt : b < a → zw_Wp l M sh tgt ls st mem bc bs Q) (kf : ¬ (b < a) → zw_Wp l M sh (pc + 3) ls st mem bc bs Q) : zw_Wp l M sh pc ls (zI b :: zI a :: st) mem bc bs Q := by
  intro p e R s m args below meth c Z G ad0 N0 H locs ad lsM cells slots C X
  obtain ⟨hW, hS, hL, hT, hE⟩ := X
  have ha : zw_r32 a := hT.2.1
  have hb : zw_r32 b := hT.1
  refine lv_icmp_gt C.1 C.2.1 hd ht (fun h => kt ((zo_lt hb ha).mp h) p e R s m args below meth c Z G ad0 N0 H locs ad lsM cells slots C ⟨hW, hS, hL, hT.2.2, hE⟩) (fun h => kf (fun q => h ((zo_lt hb ha).mpr q)) p e R s m args below meth c Z G ad0 N0 H locs ad lsM cells slots C ⟨hW, hS, hL, hT.2.2, hE⟩)
set_option maxHeartbeats 4000000 in
theorem wp_icmp_le {l : Launch} {M : zMM} {sh : zSh} {pc : Nat} {ls : List (Option zV)} {st : List zV} {mem : zMem} {bc bs : Nat} {Q : zQ} {a b : Int} {off : Int} {tgt : Nat} (hd : decode (zc M) pc = .ok (.if_icmp .le off, 3)) (ht : (pc : Int) + off = (tgt : Int)) (kt : a ≤ b → zw_Wp l M sh tgt ls st mem bc bs Q) (kf : ¬ (a ≤ b) → zw_Wp l M sh (pc + 3) ls st mem bc bs Q) : zw_Wp l M sh pc ls (zI b :: zI a :: st) mem bc bs Q := by
  intro p e R s m args below meth c Z G ad0 N0 H locs ad lsM cells slots C X
  obtain ⟨hW, hS, hL, hT, hE⟩ := X
  have ha : zw_r32 a := hT.2.1
  have hb : zw_r32 b := hT.1
  refine lv_icmp_le C.1 C.2.1 hd ht (fun h => kt ((zo_le ha hb).mp h) p e R s m args below meth c Z G ad0 N0 H locs ad lsM cells slots C ⟨hW, hS, hL, hT.2.2, hE⟩) (fun h => kf (fun q => h ((zo_le ha hb).mpr q)) p e R s m args below meth c Z G ad0 N0 H locs ad lsM cells slots C ⟨hW, hS, hL, hT.2.2, hE⟩)
set_option maxHeartbeats 4000000 in
theorem wp_icmp_ne {l : Launch} {M : zMM} {sh : zSh} {pc : Nat} {ls : List (Option zV)} {st : List zV} {mem : zMem} {bc bs : Nat} {Q : zQ} {a b : Int} {off : Int} {tgt : Nat} (hd : decode (zc M) pc = .ok (.if_icmp .ne off, 3)) (ht : (pc : Int) + off = (tgt : Int)) (kt : a ≠ b → zw_Wp l M sh tgt ls st mem bc bs Q) (kf : a = b → zw_Wp l M sh (pc + 3) ls st mem bc bs Q) : zw_Wp l M sh pc ls (zI b :: zI a :: st) mem bc bs Q := by
  intro p e R s m args below meth c Z G ad0 N0 H locs ad lsM cells slots C X
  obtain ⟨hW, hS, hL, hT, hE⟩ := X
  have ha : zw_r32 a := hT.2.1
  have hb : zw_r32 b := hT.1
  refine lv_icmp_ne C.1 C.2.1 hd ht (fun h => kt (fun q => h ((zo_eq ha hb).mpr q)) p e R s m args below meth c Z G ad0 N0 H locs ad lsM cells slots C ⟨hW, hS, hL, hT.2.2, hE⟩) (fun h => kf ((zo_eq ha hb).mp h) p e R s m args below meth c Z G ad0 N0 H locs ad lsM cells slots C ⟨hW, hS, hL, hT.2.2, hE⟩)
set_option maxHeartbeats 4000000 in
theorem wp_if_eq {l : Launch} {M : zMM} {sh : zSh} {pc : Nat} {ls : List (Option zV)} {st : List zV} {mem : zMem} {bc bs : Nat} {Q : zQ} {a : Int} {off : Int} {tgt : Nat} (hd : decode (zc M) pc = .ok (.ifCond .eq off, 3)) (ht : (pc : Int) + off = (tgt : Int)) (kt : a = 0 → zw_Wp l M sh tgt ls st mem bc bs Q) (kf : ¬ (a = 0) → zw_Wp l M sh (pc + 3) ls st mem bc bs Q) : zw_Wp l M sh pc ls (zI a :: st) mem bc bs Q := by
  intro p e R s m args below meth c Z G ad0 N0 H locs ad lsM cells slots C X
  obtain ⟨hW, hS, hL, hT, hE⟩ := X
  have ha : zw_r32 a := hT.1
  refine lv_if_eq C.1 C.2.1 hd ht (fun h => kt ((zo_eq ha z32_0).mp (by rw [zo_0]; exact h)) p e R s m args below meth c Z G ad0 N0 H locs ad lsM cells slots C ⟨hW, hS, hL, hT.2, hE⟩) (fun h => kf (fun q => h (by rw [← zo_0]; exact (zo_eq ha z32_0).mpr q)) p e R s m args below meth c Z G ad0 N0 H locs ad lsM cells slots C ⟨hW, hS, hL, hT.2, hE⟩)
set_option maxHeartbeats 4000000 in
theorem wp_if_lt {l : Launch} {M : zMM} {sh : zSh} {pc : Nat} {ls : List (Option zV)} {st : List zV} {mem : zMem} {bc bs : Nat} {Q : zQ} {a : Int} {off : Int} {tgt : Nat} (hd : decode (zc M) pc = .ok (.ifCond .lt off, 3)) (ht : (pc : Int) + off = (tgt : Int)) (kt : a < 0 → zw_Wp l M sh tgt ls st mem bc bs Q) (kf : ¬ (a < 0) → zw_Wp l M sh (pc + 3) ls st mem bc bs Q) : zw_Wp l M sh pc ls (zI a :: st) mem bc bs Q := by
  intro p e R s m args below meth c Z G ad0 N0 H locs ad lsM cells slots C X
  obtain ⟨hW, hS, hL, hT, hE⟩ := X
  have ha : zw_r32 a := hT.1
  refine lv_if_lt C.1 C.2.1 hd ht (fun h => kt ((zo_lt ha z32_0).mp (by rw [zo_0]; exact h)) p e R s m args below meth c Z G ad0 N0 H locs ad lsM cells slots C ⟨hW, hS, hL, hT.2, hE⟩) (fun h => kf (fun q => h (by rw [← zo_0]; exact (zo_lt ha z32_0).mpr q)) p e R s m args below meth c Z G ad0 N0 H locs ad lsM cells slots C ⟨hW, hS, hL, hT.2, hE⟩)
set_option maxHeartbeats 4000000 in
theorem wp_if_ge {l : Launch} {M : zMM} {sh : zSh} {pc : Nat} {ls : List (Option zV)} {st : List zV} {mem : zMem} {bc bs : Nat} {Q : zQ} {a : Int} {off : Int} {tgt : Nat} (hd : decode (zc M) pc = .ok (.ifCond .ge off, 3)) (ht : (pc : Int) + off = (tgt : Int)) (kt : 0 ≤ a → zw_Wp l M sh tgt ls st mem bc bs Q) (kf : ¬ (0 ≤ a) → zw_Wp l M sh (pc + 3) ls st mem bc bs Q) : zw_Wp l M sh pc ls (zI a :: st) mem bc bs Q := by
  intro p e R s m args below meth c Z G ad0 N0 H locs ad lsM cells slots C X
  obtain ⟨hW, hS, hL, hT, hE⟩ := X
  have ha : zw_r32 a := hT.1
  refine lv_if_ge C.1 C.2.1 hd ht (fun h => kt ((zo_le z32_0 ha).mp (by rw [zo_0]; exact h)) p e R s m args below meth c Z G ad0 N0 H locs ad lsM cells slots C ⟨hW, hS, hL, hT.2, hE⟩) (fun h => kf (fun q => h (by rw [← zo_0]; exact (zo_le z32_0 ha).mpr q)) p e R s m args below meth c Z G ad0 N0 H locs ad lsM cells slots C ⟨hW, hS, hL, hT.2, hE⟩)
set_option maxHeartbeats 4000000 in
theorem wp_if_gt {l : Launch} {M : zMM} {sh : zSh} {pc : Nat} {ls : List (Option zV)} {st : List zV} {mem : zMem} {bc bs : Nat} {Q : zQ} {a : Int} {off : Int} {tgt : Nat} (hd : decode (zc M) pc = .ok (.ifCond .gt off, 3)) (ht : (pc : Int) + off = (tgt : Int)) (kt : 0 < a → zw_Wp l M sh tgt ls st mem bc bs Q) (kf : ¬ (0 < a) → zw_Wp l M sh (pc + 3) ls st mem bc bs Q) : zw_Wp l M sh pc ls (zI a :: st) mem bc bs Q := by
  intro p e R s m args below meth c Z G ad0 N0 H locs ad lsM cells slots C X
  obtain ⟨hW, hS, hL, hT, hE⟩ := X
  have ha : zw_r32 a := hT.1
  refine lv_if_gt C.1 C.2.1 hd ht (fun h => kt ((zo_lt z32_0 ha).mp (by rw [zo_0]; exact h)) p e R s m args below meth c Z G ad0 N0 H locs ad lsM cells slots C ⟨hW, hS, hL, hT.2, hE⟩) (fun h => kf (fun q => h (by rw [← zo_0]; exact (zo_lt z32_0 ha).mpr q)) p e R s m args below meth c Z G ad0 N0 H locs ad lsM cells slots C ⟨hW, hS, hL, hT.2, hE⟩)
set_option maxHeartbeats 4000000 in
theorem wp_if_le {l : Launch} {M : zMM} {sh : zSh} {pc : Nat} {ls : List (Option zV)} {st : List zV} {mem : zMem} {bc bs : Nat} {Q : zQ} {a : Int} {off : Int} {tgt : Nat} (hd : decode (zc M) pc = .ok (.ifCond .le off, 3)) (ht : (pc : Int) + off = (tgt : Int)) (kt : a ≤ 0 → zw_Wp l M sh tgt ls st mem bc bs Q) (kf : ¬ (a ≤ 0) → zw_Wp l M sh (pc + 3) ls st mem bc bs Q) : zw_Wp l M sh pc ls (zI a :: st) mem bc bs Q := by
  intro p e R s m args below meth c Z G ad0 N0 H locs ad lsM cells slots C X
  obtain ⟨hW, hS, hL, hT, hE⟩ := X
  have ha : zw_r32 a := hT.1
  refine lv_if_le C.1 C.2.1 hd ht (fun h => kt ((zo_le ha z32_0).mp (by rw [zo_0]; exact h)) p e R s m args below meth c Z G ad0 N0 H locs ad lsM cells slots C ⟨hW, hS, hL, hT.2, hE⟩) (fun h => kf (fun q => h (by rw [← zo_0]; exact (zo_le ha z32_0).mpr q)) p e R s m args below meth c Z G ad0 N0 H locs ad lsM cells slots C ⟨hW, hS, hL, hT.2, hE⟩)
set_option maxHeartbeats 4000000 in
theorem wp_if_ne {l : Launch} {M : zMM} {sh : zSh} {pc : Nat} {ls : List (Option zV)} {st : List zV} {mem : zMem} {bc bs : Nat} {Q : zQ} {a : Int} {off : Int} {tgt : Nat} (hd : decode (zc M) pc = .ok (.ifCond .ne off, 3)) (ht : (pc : Int) + off = (tgt : Int)) (kt : a ≠ 0 → zw_Wp l M sh tgt ls st mem bc bs Q) (kf : a = 0 → zw_Wp l M sh (pc + 3) ls st mem bc bs Q) : zw_Wp l M sh pc ls (zI a :: st) mem bc bs Q := by
  intro p e R s m args below meth c Z G ad0 N0 H locs ad lsM cells slots C X
  obtain ⟨hW, hS, hL, hT, hE⟩ := X
  have ha : zw_r32 a := hT.1
  refine lv_if_ne C.1 C.2.1 hd ht (fun h => kt (fun q => h (by rw [← zo_0]; exact (zo_eq ha z32_0).mpr q)) p e R s m args below meth c Z G ad0 N0 H locs ad lsM cells slots C ⟨hW, hS, hL, hT.2, hE⟩) (fun h => kf ((zo_eq ha z32_0).mp (by rw [zo_0]; exact h)) p e R s m args below meth c Z G ad0 N0 H locs ad lsM cells slots C ⟨hW, hS, hL, hT.2, hE⟩)
set_option maxHeartbeats 4000000 in
theorem wp_goto {l : Launch} {M : zMM} {sh : zSh} {pc : Nat} {ls : List (Option zV)} {st : List zV} {mem : zMem} {bc bs : Nat} {Q : zQ} {off : Int} {tgt : Nat} (hd : decode (zc M) pc = .ok (.goto off, 3)) (ht : (pc : Int) + off = (tgt : Int)) (k : zw_Wp l M sh tgt ls st mem bc bs Q) : zw_Wp l M sh pc ls st mem bc bs Q := by
  intro p e R s m args below meth c Z G ad0 N0 H locs ad lsM cells slots C X
  obtain ⟨hW, hS, hL, hT, hE⟩ := X
  refine lv_goto C.1 C.2.1 hd ht ?_
  exact k p e R s m args below meth c Z G ad0 N0 H locs ad lsM cells slots C ⟨hW, hS, hL, hT, hE⟩
set_option maxHeartbeats 4000000 in
theorem wp_tabOut {l : Launch} {M : zMM} {sh : zSh} {pc : Nat} {ls : List (Option zV)} {st : List zV} {mem : zMem} {bc bs : Nat} {Q : zQ} {dflt lo hi : Int} {offs : Array Int} {len : Nat} {a : Int} {tgt : Nat} (hd : decode (zc M) pc = .ok (.tableswitch dflt lo hi offs, len)) (h : a < lo ∨ hi < a) (ht : (pc : Int) + dflt = (tgt : Int)) (k : zw_Wp l M sh tgt ls st mem bc bs Q) : zw_Wp l M sh pc ls (zI a :: st) mem bc bs Q := by
  intro p e R s m args below meth c Z G ad0 N0 H locs ad lsM cells slots C X
  obtain ⟨hW, hS, hL, hT, hE⟩ := X
  have ha : zw_r32 a := hT.1
  refine lv_tableOut C.1 C.2.1 hd (by rw [zt_of ha]; exact h) ht ?_
  exact k p e R s m args below meth c Z G ad0 N0 H locs ad lsM cells slots C ⟨hW, hS, hL, hT.2, hE⟩
set_option maxHeartbeats 4000000 in
theorem wp_tabIn {l : Launch} {M : zMM} {sh : zSh} {pc : Nat} {ls : List (Option zV)} {st : List zV} {mem : zMem} {bc bs : Nat} {Q : zQ} {dflt lo hi : Int} {offs : Array Int} {len : Nat} {a off : Int} {tgt : Nat} (hd : decode (zc M) pc = .ok (.tableswitch dflt lo hi offs, len)) (h1 : ¬ a < lo) (h2 : ¬ hi < a) (ho : offs[(a - lo).toNat]? = some off) (ht : (pc : Int) + off = (tgt : Int)) (k : zw_Wp l M sh tgt ls st mem bc bs Q) : zw_Wp l M sh pc ls (zI a :: st) mem bc bs Q := by
  intro p e R s m args below meth c Z G ad0 N0 H locs ad lsM cells slots C X
  obtain ⟨hW, hS, hL, hT, hE⟩ := X
  have ha : zw_r32 a := hT.1
  refine lv_tableIn C.1 C.2.1 hd (by rw [zt_of ha]; exact h1) (by rw [zt_of ha]; exact h2) (by rw [zt_of ha]; exact ho) ht ?_
  exact k p e R s m args below meth c Z G ad0 N0 H locs ad lsM cells slots C ⟨hW, hS, hL, hT.2, hE⟩
set_option maxHeartbeats 4000000 in
theorem wp_i2l {l : Launch} {M : zMM} {sh : zSh} {pc : Nat} {ls : List (Option zV)} {st : List zV} {mem : zMem} {bc bs : Nat} {Q : zQ} {a : Int} (hd : decode (zc M) pc = .ok (.i2l, 1)) (k : zw_Wp l M sh (pc + 1) ls (zJ a :: st) mem bc bs Q) : zw_Wp l M sh pc ls (zI a :: st) mem bc bs Q := by
  intro p e R s m args below meth c Z G ad0 N0 H locs ad lsM cells slots C X
  obtain ⟨hW, hS, hL, hT, hE⟩ := X
  have ha : zw_r32 a := hT.1
  have hr : zw_r64 a := ⟨by have := ha.1; omega, by have := ha.2; omega⟩
  refine lv_i2l (v := Int64.ofInt a) C.1 C.2.1 hd (Int64.toInt_inj.mp (by rw [Int32.toInt_toInt64, zt_of ha, zt_ofl hr])) ?_
  exact k p e R s m args below meth c Z G ad0 N0 H locs ad lsM cells slots C ⟨hW, hS, hL, ⟨hr, hT.2⟩, hE⟩
set_option maxHeartbeats 4000000 in
theorem wp_ladd {l : Launch} {M : zMM} {sh : zSh} {pc : Nat} {ls : List (Option zV)} {st : List zV} {mem : zMem} {bc bs : Nat} {Q : zQ} {a b : Int} (hd : decode (zc M) pc = .ok (.ladd, 1)) (k : zw_Wp l M sh (pc + 1) ls (zJ (zwl (a + b)) :: st) mem bc bs Q) : zw_Wp l M sh pc ls (zJ b :: zJ a :: st) mem bc bs Q := by
  intro p e R s m args below meth c Z G ad0 N0 H locs ad lsM cells slots C X
  obtain ⟨hW, hS, hL, hT, hE⟩ := X
  refine lv_ladd C.1 C.2.1 hd ?_
  rw [← Int64.ofInt_add, ← zo_wl]
  exact k p e R s m args below meth c Z G ad0 N0 H locs ad lsM cells slots C ⟨hW, hS, hL, ⟨zwl_r _, hT.2.2⟩, hE⟩
set_option maxHeartbeats 4000000 in
theorem wp_lsub {l : Launch} {M : zMM} {sh : zSh} {pc : Nat} {ls : List (Option zV)} {st : List zV} {mem : zMem} {bc bs : Nat} {Q : zQ} {a b : Int} (hd : decode (zc M) pc = .ok (.lsub, 1)) (k : zw_Wp l M sh (pc + 1) ls (zJ (zwl (a - b)) :: st) mem bc bs Q) : zw_Wp l M sh pc ls (zJ b :: zJ a :: st) mem bc bs Q := by
  intro p e R s m args below meth c Z G ad0 N0 H locs ad lsM cells slots C X
  obtain ⟨hW, hS, hL, hT, hE⟩ := X
  refine lv_lsub C.1 C.2.1 hd ?_
  rw [← Int64.ofInt_sub, ← zo_wl]
  exact k p e R s m args below meth c Z G ad0 N0 H locs ad lsM cells slots C ⟨hW, hS, hL, ⟨zwl_r _, hT.2.2⟩, hE⟩
set_option maxHeartbeats 4000000 in
theorem wp_ldiv {l : Launch} {M : zMM} {sh : zSh} {pc : Nat} {ls : List (Option zV)} {st : List zV} {mem : zMem} {bc bs : Nat} {Q : zQ} {a b : Int} (hd : decode (zc M) pc = .ok (.ldiv, 1)) (hb : b ≠ 0) (k : zw_Wp l M sh (pc + 1) ls (zJ (zwl (a.tdiv b)) :: st) mem bc bs Q) : zw_Wp l M sh pc ls (zJ b :: zJ a :: st) mem bc bs Q := by
  intro p e R s m args below meth c Z G ad0 N0 H locs ad lsM cells slots C X
  obtain ⟨hW, hS, hL, hT, hE⟩ := X
  have ha1 : zw_r64 a := hT.2.1
  have hb1 : zw_r64 b := hT.1
  have e9 : Int64.ofInt a / Int64.ofInt b = Int64.ofInt (zwl (a.tdiv b)) := by
    apply Int64.toInt_inj.mp
    rw [Int64.toInt_div, zt_ofl ha1, zt_ofl hb1, zo_wl, Int64.toInt_ofInt]
  refine lv_ldiv C.1 C.2.1 hd (fun q => hb ?_) ?_
  · have h1 := congrArg Int64.toInt q
    rw [zt_ofl hb1] at h1
    exact h1
  rw [e9]
  exact k p e R s m args below meth c Z G ad0 N0 H locs ad lsM cells slots C ⟨hW, hS, hL, ⟨zwl_r _, hT.2.2⟩, hE⟩
set_option maxHeartbeats 4000000 in
theorem wp_lrem {l : Launch} {M : zMM} {sh : zSh} {pc : Nat} {ls : List (Option zV)} {st : List zV} {mem : zMem} {bc bs : Nat} {Q : zQ} {a b : Int} (hd : decode (zc M) pc = .ok (.lrem, 1)) (hb : b ≠ 0) (k : zw_Wp l M sh (pc + 1) ls (zJ (a.tmod b) :: st) mem bc bs Q) : zw_Wp l M sh pc ls (zJ b :: zJ a :: st) mem bc bs Q := by
  intro p e R s m args below meth c Z G ad0 N0 H locs ad lsM cells slots C X
  obtain ⟨hW, hS, hL, hT, hE⟩ := X
  have ha1 : zw_r64 a := hT.2.1
  have hb1 : zw_r64 b := hT.1
  have e9 : Int64.ofInt a - Int64.ofInt a / Int64.ofInt b * Int64.ofInt b = Int64.ofInt (a.tmod b) := by
    have e1 : Int64.ofInt a / Int64.ofInt b = Int64.ofInt (a.tdiv b) := by
      apply Int64.toInt_inj.mp
      rw [Int64.toInt_div, zt_ofl ha1, zt_ofl hb1, Int64.toInt_ofInt]
    rw [e1, ← Int64.ofInt_mul, ← Int64.ofInt_sub, Int.tmod_def]
    congr 2
    exact Int.mul_comm _ _
  have hr : zw_r64 (a.tmod b) := by
    rw [← zt_ofl ha1, ← zt_ofl hb1, ← Int64.toInt_mod]
    exact zr_ofl _
  refine lv_lrem C.1 C.2.1 hd (fun q => hb ?_) ?_
  · have h1 := congrArg Int64.toInt q
    rw [zt_ofl hb1] at h1
    exact h1
  rw [e9]
  exact k p e R s m args below meth c Z G ad0 N0 H locs ad lsM cells slots C ⟨hW, hS, hL, ⟨hr, hT.2.2⟩, hE⟩
set_option maxHeartbeats 4000000 in
theorem wp_lcmp {l : Launch} {M : zMM} {sh : zSh} {pc : Nat} {ls : List (Option zV)} {st : List zV} {mem : zMem} {bc bs : Nat} {Q : zQ} {a b : Int} (hd : decode (zc M) pc = .ok (.lcmp, 1)) (k : zw_Wp l M sh (pc + 1) ls (zI (lg_cmp (Int64.ofInt a) (Int64.ofInt b)).toInt :: st) mem bc bs Q) : zw_Wp l M sh pc ls (zJ b :: zJ a :: st) mem bc bs Q := by
  intro p e R s m args below meth c Z G ad0 N0 H locs ad lsM cells slots C X
  obtain ⟨hW, hS, hL, hT, hE⟩ := X
  refine W.lcmp C.1 C.2.1 hd ?_
  rw [← Int32.ofInt_toInt (lg_cmp (Int64.ofInt a) (Int64.ofInt b))]
  exact k p e R s m args below meth c Z G ad0 N0 H locs ad lsM cells slots C ⟨hW, hS, hL, ⟨zr_of _, hT.2.2⟩, hE⟩
set_option maxHeartbeats 4000000 in
theorem wp_ireturn {l : Launch} {M : zMM} {sh : zSh} {pc : Nat} {ls : List (Option zV)} {st : List zV} {mem : zMem} {bc bs : Nat} {Q : zQ} {z : Int} (hd : decode (zc M) pc = .ok (.ireturn, 1)) (hr : zr M = some .int) (k : Q (some (zI z)) sh mem) : zw_Wp l M sh pc ls [zI z] mem bc bs Q := by
  intro p e R s m args below meth c Z G ad0 N0 H locs ad lsM cells slots C X
  obtain ⟨hW, hS, hL, hT, hE⟩ := X
  exact C.2.2.2.2.2.2.2.2 pc (some (zI z)) sh mem H locs ad lsM cells slots bc bs ⟨hd, Or.inl hr⟩ ⟨hW, hS, hL.nil, hT, hE⟩ k
set_option maxHeartbeats 4000000 in
theorem wp_zreturn {l : Launch} {M : zMM} {sh : zSh} {pc : Nat} {ls : List (Option zV)} {st : List zV} {mem : zMem} {bc bs : Nat} {Q : zQ} {z : Int} (hd : decode (zc M) pc = .ok (.ireturn, 1)) (hr : zr M = some .boolean) (hz : z = 0 ∨ z = 1) (k : Q (some (zI z)) sh mem) : zw_Wp l M sh pc ls [zI z] mem bc bs Q := by
  intro p e R s m args below meth c Z G ad0 N0 H locs ad lsM cells slots C X
  obtain ⟨hW, hS, hL, hT, hE⟩ := X
  exact C.2.2.2.2.2.2.2.2 pc (some (zI z)) sh mem H locs ad lsM cells slots bc bs ⟨hd, Or.inr ⟨hr, hz⟩⟩ ⟨hW, hS, hL.nil, hT, hE⟩ k
set_option maxHeartbeats 4000000 in
theorem wp_lreturn {l : Launch} {M : zMM} {sh : zSh} {pc : Nat} {ls : List (Option zV)} {st : List zV} {mem : zMem} {bc bs : Nat} {Q : zQ} {z : Int} (hd : decode (zc M) pc = .ok (.lreturn, 1)) (hr : zr M = some .long) (k : Q (some (zJ z)) sh mem) : zw_Wp l M sh pc ls [zJ z] mem bc bs Q := by
  intro p e R s m args below meth c Z G ad0 N0 H locs ad lsM cells slots C X
  obtain ⟨hW, hS, hL, hT, hE⟩ := X
  exact C.2.2.2.2.2.2.2.2 pc (some (zJ z)) sh mem H locs ad lsM cells slots bc bs ⟨hd, hr⟩ ⟨hW, hS, hL.nil, hT, hE⟩ k
set_option maxHeartbeats 4000000 in
theorem wp_areturn {l : Launch} {M : zMM} {sh : zSh} {pc : Nat} {ls : List (Option zV)} {st : List zV} {mem : zMem} {bc bs : Nat} {Q : zQ} {z : Nat} {n : String} (hd : decode (zc M) pc = .ok (.areturn, 1)) (hr : zr M = some (.object n)) (k : Q (some (zR z)) sh mem) : zw_Wp l M sh pc ls [zR z] mem bc bs Q := by
  intro p e R s m args below meth c Z G ad0 N0 H locs ad lsM cells slots C X
  obtain ⟨hW, hS, hL, hT, hE⟩ := X
  exact C.2.2.2.2.2.2.2.2 pc (some (zR z)) sh mem H locs ad lsM cells slots bc bs ⟨hd, n, hr⟩ ⟨hW, hS, hL.nil, hT, hE⟩ k
set_option maxHeartbeats 4000000 in
theorem wp_return {l : Launch} {M : zMM} {sh : zSh} {pc : Nat} {ls : List (Option zV)} {st : List zV} {mem : zMem} {bc bs : Nat} {Q : zQ} (hd : decode (zc M) pc = .ok (.return_, 1)) (hr : zr M = none) (k : Q none sh mem) : zw_Wp l M sh pc ls [] mem bc bs Q := by
  intro p e R s m args below meth c Z G ad0 N0 H locs ad lsM cells slots C X
  obtain ⟨hW, hS, hL, hT, hE⟩ := X
  exact C.2.2.2.2.2.2.2.2 pc none sh mem H locs ad lsM cells slots bc bs ⟨hd, hr⟩ ⟨hW, hS, hL.nil, hT, hE⟩ k
set_option maxHeartbeats 4000000 in
theorem wp_mono {l : Launch} {M : zMM} {sh : zSh} {pc : Nat} {ls : List (Option zV)} {st : List zV} {mem : zMem} {bc bs : Nat} {Q Q2 : zQ} (h : ∀ r s2 m2, Q r s2 m2 → Q2 r s2 m2) (k : zw_Wp l M sh pc ls st mem bc bs Q) : zw_Wp l M sh pc ls st mem bc bs Q2 := by
  intro p e R s m args below meth c Z G ad0 N0 H locs ad lsM cells slots C X
  exact k p e R s m args below meth c Z G ad0 N0 H locs ad lsM cells slots ⟨C.1, C.2.1, C.2.2.1, C.2.2.2.1, C.2.2.2.2.1, C.2.2.2.2.2.1, C.2.2.2.2.2.2.1, C.2.2.2.2.2.2.2.1, fun pc r sh mem H locs ad lsM cells slots bc bs h1 h2 h3 => C.2.2.2.2.2.2.2.2 pc r sh mem H locs ad lsM cells slots bc bs h1 h2 (h r sh mem h3)⟩ X
/-- fewer locals are known -/
theorem wp_ls {l : Launch} {M : zMM} {sh : zSh} {pc : Nat} {ls ls2 : List (Option zV)} {st : List zV} {mem : zMem} {bc bs : Nat} {Q : zQ} (h : ∀ (i : Nat) (v : zV), ls2[i]? = some (some v) → ls[i]? = some (some v)) (k : zw_Wp l M sh pc ls2 st mem bc bs Q) : zw_Wp l M sh pc ls st mem bc bs Q := by
  intro p e R s m args below meth c Z G ad0 N0 H locs ad lsM cells slots C X
  exact k p e R s m args below meth c Z G ad0 N0 H locs ad lsM cells slots C ⟨X.1, X.2.1, ⟨X.2.2.1.1, X.2.2.1.2.1, fun i v hi => X.2.2.1.2.2 i v (h i v hi)⟩, X.2.2.2⟩
