/-! THE CLAIM OUT OF ONE WALK OF THE LAW'S BODY. Your part is whole_start (and what it stands on); all else here is the same for every law, but numbers. -/
def R_law : String := "LettersEliminatedLaw"
def lw_P (b : Addr) (xs : List Int32) (args : Array Value) (s : State) : Prop := args = #[.ref b] ∧ s.IntsAt b xs ∧ xs.length ≤ 4096 ∧ (Jvm.Cond.and given_1 narrow_1).before args s = true
def lw_Q (_ : Array Value) (s : State) (o : Outcome) (t : State) : Prop := o = .returned (some (.int 1)) ∧ Framed s o t [] 600000 7302250
def lw_Z (below : List Frame) (a : Array Value) (s : State) : State → Prop := fun t => ∃ o, t.status = .running ∧ Ended t below o ∧ lw_Q a s o t
/-- the law's own end, with 1 on the stack, nothing written that was there before, its room as the claim has it -/
theorem lw_ret {p : Program} {l : Launch} {e : Env} {s : State} {m : MethodId} {below : List Frame} {meth : Method} {c : Code} {b : Nat} (hx : p.tables.exec = Jvm.exec) (hb : c.code = code) (hr : meth.sig.returnType = ret) (hlocks : meth.locks = false) {pc : Nat} {H : Heap} {ls : Array Slot} (hdg : decode code pc = .ok (.ireturn, 1)) : W p l e room_1 s m #[Value.ref b] below meth c H [] 600000 7302250 (lw_Z below #[Value.ref b] s) (F0 m pc ls [.int 1]) := by
  intro T hT X
  obtain ⟨fs, hret, hrun, hended, hW, hframe⟩ := X.leave (v := some (.int 1)) (hlocks := hlocks) (fun h => by rw [hr] at h; cases h)
  have hmeth' : T.vm.method? m = some meth := X.method'
  refine ⟨T.setFrames fs, ?_, .returned (some (.int 1)), hrun, hended, rfl, ⟨_, rfl⟩, hW, hframe⟩
  jvm_step X.here [X.here.top, hx, hb, hdg, hmeth', hr, ret, narrow_b1]
  (try refine ⟨rfl, ?_⟩); (try refine ⟨rfl, ?_⟩)
  first | (intro acts; rw [hret _ acts rfl rfl rfl]) | rw [hret _ _ rfl rfl rfl]
  exact Steps.refl _
/-- what holds at the law's entry: the machine, the code, the tables' words (any of lw_tbl by 'hts w (by decide +kernel)'), the script of L ints xs at the cell b, what the Statement gives of the start (any of its parts by flat_of_before) -/
def lw_At (p : Program) (s : State) (m : MethodId) (meth : Method) (c : Code) (b L : Nat) (xs : Nat → Int32) : Prop :=
  p.tables.exec = Jvm.exec ∧ c.code = code ∧ meth.sig.returnType = ret ∧ c.maxLocals = 4 ∧ s.vm.findClass R_law = some m.cls ∧ (∀ w ∈ lw_tbl, w.before #[Value.ref b] s = true) ∧ va_X b L xs s s.heap ∧ b < s.heap.size ∧ meth.locks = false ∧ (Jvm.Cond.and given_1 narrow_1).before #[Value.ref b] s = true ∧ meth.name = (zy mm_L_law).name
-- ===== YOUR PART BEGINS =====
def zprm (k : Int) : Int := if k = 0 then 2 else if k = 1 then 3 else if k = 2 then 5 else if k = 3 then 7 else if k = 4 then 11 else if k = 5 then 13 else if k = 6 then 17 else if k = 7 then 19 else if k = 8 then 23 else if k = 9 then 29 else if k = 10 then 31 else 0
def zm0 (xs : Nat → Int32) : zMem := fun a k => if a = 1000 then zprm k else if a = 1001 then (xs k.toNat).toInt else 0
theorem zm0_p {xs : Nat → Int32} {k : Int} : zm0 xs 1000 k = zprm k := if_pos rfl
theorem zm0_s {xs : Nat → Int32} {k : Nat} : zm0 xs 1001 k = (xs k).toInt := by
  unfold zm0
  rw [if_neg (by decide), if_pos rfl]
  rfl
theorem zm0_r {xs : Nat → Int32} (i : Nat) (k : Int) : zw_r32 (zm0 xs i k) := by
  unfold zm0
  split
  · unfold zprm zw_r32; omega
  · split
    · have h1 := Int32.le_toInt (xs k.toNat)
      have h2 := Int32.toInt_lt (xs k.toNat)
      exact ⟨by omega, by omega⟩
    · exact ⟨by decide, by decide⟩
theorem it_X0 : Cond.instantiable RX0 4 ∈ lw_g := zw_mem 245 (by decide +kernel) rfl
theorem it_X1 : Cond.instantiable RX1 2 ∈ lw_g := zw_mem 319 (by decide +kernel) rfl
theorem it_X3 : Cond.instantiable RX3 4 ∈ lw_g := zw_mem 193 (by decide +kernel) rfl
theorem it_X4 : Cond.instantiable RX4 4 ∈ lw_g := zw_mem 124 (by decide +kernel) rfl
theorem it_X5 : Cond.instantiable RX5 3 ∈ lw_g := zw_mem 267 (by decide +kernel) rfl
theorem it_X6 : Cond.instantiable RX6 7 ∈ lw_g := zw_mem 163 (by decide +kernel) rfl
theorem it_X7 : Cond.instantiable RX7 8 ∈ lw_g := zw_mem 283 (by decide +kernel) rfl
theorem it_X8 : Cond.instantiable RX8 3 ∈ lw_g := zw_mem 117 (by decide +kernel) rfl
theorem it_X9 : Cond.instantiable RX9 8 ∈ lw_g := zw_mem 213 (by decide +kernel) rfl
theorem it_X10 : Cond.instantiable RX10 11 ∈ lw_g := zw_mem 109 (by decide +kernel) rfl
theorem it_X11 : Cond.instantiable RX11 36 ∈ lw_g := zw_mem 966 (by decide +kernel) rfl
/-- YOUR PART: from the entry, for every script of at most 4096 ints, the law comes to its end with true ('hflags': the launch's flags, for a law that throws: no stack traces) -/
theorem whole_start {p : Program} {e : Env} {s : State} {m : MethodId} {below : List Frame} {meth : Method} {c : Code} (l : Launch) (hflags : l.flags = flags0) {b L : Nat} {xs : Nat → Int32} (hL : L ≤ 4096) (C0 : lw_At p s m meth c b L xs) : W p l e room_1 s m #[Value.ref b] below meth c s.heap [] 0 0 (lw_Z below #[Value.ref b] s) (entryFrame m ([Value.ref b] : List Value).toArray 4) := by
  obtain ⟨hx, hb, hr, hml, hown, hts, hX, hbl, hlk, hgv, hnm⟩ := C0
  have hs := flat_of_before _ hgv
  have hg : ∀ w ∈ lw_g, w.before #[Value.ref b] s = true := fun w hw => hts w (List.mem_filter.mp hw).1
  have hA : ∀ a : Nat, a < s.heap.size → ¬ (fun q : Nat => s.heap.size ≤ q) a := fun a h => Nat.not_le.mpr h
  obtain ⟨cX0, iX0, KX0⟩ := u_known (C := RX0) (T := TX0) (N := 4) (n := 4) hg ul_X0 (hg _ it_X0)
  obtain ⟨cX1, iX1, KX1⟩ := u_known (C := RX1) (T := TX1) (N := 2) (n := 2) hg ul_X1 (hg _ it_X1)
  obtain ⟨cX3, iX3, KX3⟩ := u_known (C := RX3) (T := TX3) (N := 4) (n := 4) hg ul_X3 (hg _ it_X3)
  obtain ⟨cX4, iX4, KX4⟩ := u_known (C := RX4) (T := TX4) (N := 4) (n := 4) hg ul_X4 (hg _ it_X4)
  obtain ⟨cX5, iX5, KX5⟩ := u_known (C := RX5) (T := TX5) (N := 3) (n := 3) hg ul_X5 (hg _ it_X5)
  obtain ⟨cX6, iX6, KX6⟩ := u_known (C := RX6) (T := TX6) (N := 7) (n := 7) hg ul_X6 (hg _ it_X6)
  obtain ⟨cX7, iX7, KX7⟩ := u_known (C := RX7) (T := TX7) (N := 8) (n := 8) hg ul_X7 (hg _ it_X7)
  obtain ⟨cX8, iX8, KX8⟩ := u_known (C := RX8) (T := TX8) (N := 3) (n := 3) hg ul_X8 (hg _ it_X8)
  obtain ⟨cX9, iX9, KX9⟩ := u_known (C := RX9) (T := TX9) (N := 8) (n := 8) hg ul_X9 (hg _ it_X9)
  obtain ⟨cX10, iX10, KX10⟩ := u_known (C := RX10) (T := TX10) (N := 11) (n := 11) hg ul_X10 (hg _ it_X10)
  obtain ⟨cX11, iX11, KX11⟩ := u_known (C := RX11) (T := TX11) (N := 36) (n := 36) hg ul_X11 (hg _ it_X11)
  obtain ⟨dC, dI, hKc⟩ : ∃ (dC : Nat → ClassId) (dI : Nat → Nat → Nat), ∀ (k : Nat) (q : vw_C), vwCl[k]? = some q → u_Kn s q.1 q.2.1 q.2.2 (dC k) (dI k) := by
    refine ⟨fun k => if k = 0 then cX0 else if k = 1 then cX1 else if k = 2 then cX3 else if k = 3 then cX4 else if k = 4 then cX5 else if k = 5 then cX6 else if k = 6 then cX7 else if k = 7 then cX8 else if k = 8 then cX9 else if k = 9 then cX10 else cX11, fun k => if k = 0 then iX0 else if k = 1 then iX1 else if k = 2 then iX3 else if k = 3 then iX4 else if k = 4 then iX5 else if k = 5 then iX6 else if k = 6 then iX7 else if k = 7 then iX8 else if k = 8 then iX9 else if k = 9 then iX10 else iX11, ?_⟩
    intro k q hq
    match k, hq with
    | 0, hq => cases hq; exact KX0
    | 1, hq => cases hq; exact KX1
    | 2, hq => cases hq; exact KX3
    | 3, hq => cases hq; exact KX4
    | 4, hq => cases hq; exact KX5
    | 5, hq => cases hq; exact KX6
    | 6, hq => cases hq; exact KX7
    | 7, hq => cases hq; exact KX8
    | 8, hq => cases hq; exact KX9
    | 9, hq => cases hq; exact KX10
    | 10, hq => cases hq; exact KX11
    | k + 11, hq => simp [vwCl] at hq
  obtain ⟨cI, kI, mI, hI1, hI2, hI3⟩ := Cond.arrayClass_spec (hg _ ac_int)
  obtain ⟨cZ, kZ, mZ, hZ1, hZ2, hZ3⟩ := Cond.arrayClass_spec (hg _ ac_bool)
  have hAO : va_AO "LettersEliminated$Poly" s := va_AO.of (hts _ (List.mem_of_getElem? (i := 123) (by decide +kernel)))
  obtain ⟨mP, cP, kP, hP1, -, hP2, hP3, hP4⟩ := Cond.arrayOver_spec hAO
  have hN : zw_N s := by
    refine ⟨?_, hAO⟩
    have hall : ∀ q ∈ zw_nest, Cond.methodLinkNest q.1 q.2.1 q.2.2.1 q.2.2.2 ∈ lw_tbl := by
      intro q hq
      simp only [zw_nest, List.mem_cons, List.not_mem_nil, or_false] at hq
      rcases hq with rfl | rfl | rfl | rfl | rfl | rfl | rfl | rfl
      · exact List.mem_of_getElem? (i := 125) (by decide +kernel)
      · exact List.mem_of_getElem? (i := 164) (by decide +kernel)
      · exact List.mem_of_getElem? (i := 194) (by decide +kernel)
      · exact List.mem_of_getElem? (i := 214) (by decide +kernel)
      · exact List.mem_of_getElem? (i := 246) (by decide +kernel)
      · exact List.mem_of_getElem? (i := 268) (by decide +kernel)
      · exact List.mem_of_getElem? (i := 284) (by decide +kernel)
      · exact List.mem_of_getElem? (i := 320) (by decide +kernel)
    intro q hq
    exact va_tabs (A := #[Value.ref b]) (u := s) rfl rfl (hts _ (hall q hq))
  obtain ⟨t, ht, hT⟩ := va_Tof (args := #[Value.ref b]) (s := s) (tm := (.static "LettersEliminated$Numbers" "PRIMES" "[I")) (ty := .int) (N := 11) (f := fun j => .int (Int32.ofInt (zprm j))) (A := fun q : Nat => s.heap.size ≤ q) (by decide) (hs _ (by decide +kernel)) (va_eqt (hs _ (by decide +kernel))) (by
    intro j hj
    match j, hj with
    | 0, _ => exact (va_eqt (z := 2) (hs (Cond.eq (.elem (.static "LettersEliminated$Numbers" "PRIMES" "[I") (.int 0)) (.int 2)) (by decide +kernel))).trans (congrArg (fun z => some (Value.int z)) (by decide +kernel : (2 : Int32) = Int32.ofInt (zprm 0)))
    | 1, _ => exact (va_eqt (z := 3) (hs (Cond.eq (.elem (.static "LettersEliminated$Numbers" "PRIMES" "[I") (.int 1)) (.int 3)) (by decide +kernel))).trans (congrArg (fun z => some (Value.int z)) (by decide +kernel : (3 : Int32) = Int32.ofInt (zprm 1)))
    | 2, _ => exact (va_eqt (z := 5) (hs (Cond.eq (.elem (.static "LettersEliminated$Numbers" "PRIMES" "[I") (.int 2)) (.int 5)) (by decide +kernel))).trans (congrArg (fun z => some (Value.int z)) (by decide +kernel : (5 : Int32) = Int32.ofInt (zprm 2)))
    | 3, _ => exact (va_eqt (z := 7) (hs (Cond.eq (.elem (.static "LettersEliminated$Numbers" "PRIMES" "[I") (.int 3)) (.int 7)) (by decide +kernel))).trans (congrArg (fun z => some (Value.int z)) (by decide +kernel : (7 : Int32) = Int32.ofInt (zprm 3)))
    | 4, _ => exact (va_eqt (z := 11) (hs (Cond.eq (.elem (.static "LettersEliminated$Numbers" "PRIMES" "[I") (.int 4)) (.int 11)) (by decide +kernel))).trans (congrArg (fun z => some (Value.int z)) (by decide +kernel : (11 : Int32) = Int32.ofInt (zprm 4)))
    | 5, _ => exact (va_eqt (z := 13) (hs (Cond.eq (.elem (.static "LettersEliminated$Numbers" "PRIMES" "[I") (.int 5)) (.int 13)) (by decide +kernel))).trans (congrArg (fun z => some (Value.int z)) (by decide +kernel : (13 : Int32) = Int32.ofInt (zprm 5)))
    | 6, _ => exact (va_eqt (z := 17) (hs (Cond.eq (.elem (.static "LettersEliminated$Numbers" "PRIMES" "[I") (.int 6)) (.int 17)) (by decide +kernel))).trans (congrArg (fun z => some (Value.int z)) (by decide +kernel : (17 : Int32) = Int32.ofInt (zprm 6)))
    | 7, _ => exact (va_eqt (z := 19) (hs (Cond.eq (.elem (.static "LettersEliminated$Numbers" "PRIMES" "[I") (.int 7)) (.int 19)) (by decide +kernel))).trans (congrArg (fun z => some (Value.int z)) (by decide +kernel : (19 : Int32) = Int32.ofInt (zprm 7)))
    | 8, _ => exact (va_eqt (z := 23) (hs (Cond.eq (.elem (.static "LettersEliminated$Numbers" "PRIMES" "[I") (.int 8)) (.int 23)) (by decide +kernel))).trans (congrArg (fun z => some (Value.int z)) (by decide +kernel : (23 : Int32) = Int32.ofInt (zprm 8)))
    | 9, _ => exact (va_eqt (z := 29) (hs (Cond.eq (.elem (.static "LettersEliminated$Numbers" "PRIMES" "[I") (.int 9)) (.int 29)) (by decide +kernel))).trans (congrArg (fun z => some (Value.int z)) (by decide +kernel : (29 : Int32) = Int32.ofInt (zprm 9)))
    | 10, _ => exact (va_eqt (z := 31) (hs (Cond.eq (.elem (.static "LettersEliminated$Numbers" "PRIMES" "[I") (.int 10)) (.int 31)) (by decide +kernel))).trans (congrArg (fun z => some (Value.int z)) (by decide +kernel : (31 : Int32) = Int32.ofInt (zprm 10)))
    | j + 11, hj => exact absurd hj (by omega)) hA
  have hZ : va_Z "LettersEliminated$Numbers" "PRIMES" "[I" (.ref t) (fun q : Nat => s.heap.size ≤ q) s s.heap := va_Zref (hts _ (List.mem_of_getElem? (i := 470) (by decide +kernel))) (hts _ (List.mem_of_getElem? (i := 106) (by decide +kernel))) ht hA
  obtain ⟨scr, x1, x2, x3, x4, x5⟩ := hX
  have hS : va_T .int b L (fun j => .int (Int32.ofInt (zm0 xs 1001 j))) (fun q : Nat => s.heap.size ≤ q) s s.heap := ⟨scr, x1, x2, x3, Nat.le_of_eq x4.symm, by rw [x4], fun j hj => by rw [x5 j hj]; show some (Value.int (xs j)) = some (Value.int (Int32.ofInt (zm0 xs 1001 j))); rw [zm0_s, Int32.ofInt_toInt], hA b hbl⟩
  have hl := lv_entry ([Value.ref b]) (n := 4) (Nat.le_of_ble_eq_true rfl)
  rw [lg_entry_eq]
  generalize (lg_sl ([Value.ref b]) ++ List.replicate (4 - (lg_sl ([Value.ref b])).length) Slot.unset).toArray = lsM at hl ⊢
  have h0 := lc_start (l := l) (L := L) (mem := zm0 xs) (Q := fun r _ _ => r = some (zI 1)) hL (fun a _ h k => by unfold zm0; rw [if_neg (by omega), if_neg (by omega)]) ⟨rfl, rfl, rfl, rfl, rfl, rfl, rfl, rfl, rfl, rfl, rfl⟩ (fun _ => rfl)
  refine h0 p e room_1 s m #[Value.ref b] below meth c (lw_Z below #[Value.ref b] s) ((dC, dI), (cI, cZ, cP), s.heap.size) (fun i => if i = 1000 then t else b) 0 s.heap [] (fun i => if i = 1000 then t else b) lsM 0 0 ⟨hx, hb, hml, hown, hg, ⟨hnm, hN⟩, Nat.le_refl _, ⟨Nat.le_refl _, Nat.le_refl _⟩, ?_⟩ ⟨⟨⟨hKc, ?_⟩, ?_, ?_, ⟨?_, ?_⟩, zm0_r, ?_, by show 0 ≤ 1000; decide⟩, va_S.rf, ⟨hl.1, hl.2.1, ?_⟩, trivial, ⟨Nat.le_refl _, fun _ _ => rfl⟩, by show 0 + 600000 ≤ 600000; decide, by show 0 + 7302250 ≤ 7302250; decide⟩
  · intro pc r sh mem H locs ad lsM cells slots bc bs hrt hX hQ
    obtain ⟨hW, hS, hL9, hT9, hE9, hc1, hc2⟩ := hX
    subst hQ
    have hc1 : cells + bc ≤ 600000 := hc1
    have hc2 : slots + bs ≤ 7302250 := hc2
    refine W.widen (k := 600000) (n := 7302250) (by omega) (by omega) ?_
    refine va_forget (fun q hq => hS.2.2 q hq) ?_
    exact lw_ret hx hb hr hlk hrt.1
  · intro k q hq
    match k, hq with
    | 0, hq => cases hq; exact ⟨fun n z => ⟨fun k h => (by cases h), kI, hI2, mI, hI3⟩, hI1⟩
    | 1, hq => cases hq; exact ⟨fun n z => ⟨fun k h => (by cases h), kZ, hZ2, mZ, hZ3⟩, hZ1⟩
    | 2, hq => cases hq; exact ⟨fun n z => ⟨fun k h => (by cases h), kP, hP2, mP, hP3⟩, kP, mP, hP2, hP3, hP1, hP4⟩
    | k + 3, hq => simp [zw_tys] at hq
  · intro k q hq
    simp [zw_ws] at hq
  · exact ⟨fun i j p q h => by simp [zw_ws] at h, fun k q h => by simp [zw_ws] at h⟩
  · exact hZ
  · intro j hj
    rcases hj with rfl | rfl
    · show va_T .int t 11 _ _ _ _
      have e : (fun k : Nat => Value.int (Int32.ofInt (zm0 xs 1000 k))) = fun k : Nat => Value.int (Int32.ofInt (zprm k)) := by
        funext k
        rw [zm0_p]
      rw [e]
      exact hT
    · exact hS
  · intro i k j h
    cases h
  · intro i v hi
    match i, hi with
    | 0, hi => cases hi; exact ⟨hl.2.2 (0, .ref b) (by simp [lv_args]), Or.inr (by decide)⟩
    | 1, hi => cases hi
    | 2, hi => cases hi
    | 3, hi => cases hi
    | i + 4, hi => simp at hi
-- ===== YOUR PART ENDS =====
set_option maxHeartbeats 4000000 in
theorem lw_walk (l : Launch) (hflags : l.flags = flags0) (b : Addr) (xs : List Int32) : MetFree l x (headSpec (Jvm.Cond.code x code maxLocals ret :: tables_1) room_1) (lw_P b xs) (fun _ _ _ _ _ => True) lw_Q := by
  refine MetFree.of_bodyS (code := code) (maxLocals := maxLocals) (ret := ret) (by decide) ?_ ?_
  · intro args s m h hn
    obtain ⟨meth, c, h1, h2, h3, h4, h5, h6, -, -⟩ := Cond.code_spec hn (atoms_spec (ws := Jvm.Cond.code x code maxLocals ret :: tables_1) h _ List.mem_cons_self)
    exact ⟨meth, c, h1, h2, h3, h4, h5, h6⟩
  · intro p e s m args below meth c s₁ B hml0 hP _
    obtain ⟨rfl, hx, hbd, hgv⟩ := hP
    obtain ⟨scr, harrAt, hlist, hof, hsmall⟩ := hx
    obtain ⟨hcb, hkn, -, -⟩ := State.arrayAt?_spec harrAt
    have hown : s.vm.findClass R_law = some m.cls := findClass_of_methodNamed B.named
    have hts0 : ∀ c ∈ (Jvm.Cond.code x code maxLocals ret :: tables_1), c.before #[Value.ref b] s = true := atoms_spec (ws := Jvm.Cond.code x code maxLocals ret :: tables_1) B.pre
    have hts : ∀ w ∈ lw_tbl, w.before #[Value.ref b] s = true := k2_hts_sels lw_privs (fun w hw => hts0 w (List.mem_cons_of_mem _ hw)) lw_privs_ok
    have hml : c.maxLocals = 4 := B.maxLocals_eq (hts0 _ List.mem_cons_self)
    have X₀ : Stand p l e room_1 s m #[Value.ref b] below meth c s₁ [] 0 0 := Stand.of_body B
    have hh0 : s₁.heap = s.heap := by rw [B.state]; rfl
    have hsz : scr.slots.size = xs.length := by rw [← Array.length_toList, hlist, List.length_map]
    have hval : ∀ j : Nat, j < xs.length → scr.slots[j]? = some (.int (xs.getD j 0)) := fun j hj => by
      rw [← Array.getElem?_toList, hlist]
      simp [hj]
    have hbl : b < s.heap.size := (Array.getElem?_eq_some_iff.mp hcb).1
    have hX : va_X b xs.length (fun j => xs.getD j 0) s s.heap := ⟨scr, hcb, hof, hkn, hsz, hval⟩
    have K : W p l e room_1 s m #[Value.ref b] below meth c s₁.heap [] 0 0 (lw_Z below #[Value.ref b] s) (entryFrame m ([Value.ref b] : List Value).toArray 4) := by
      rw [hh0]
      exact whole_start l hflags hbd ⟨B.exec, B.bytes, B.returns, hml, hown, hts, hX, hbl, B.notSynchronized, hgv, (name_of_methodNamed B.named B.method).1⟩
    obtain ⟨t, a1, o, b1, b2, b3⟩ := K s₁ rfl X₀
    exact ⟨t, o, a1, b1, b2, b3⟩
theorem lw_pre_spec {args : Array Value} {s : State} (h : (Jvm.Cond.and given_1 narrow_1).before args s = true) (hr : rest_1_c.before args s = true) : ∃ (b : Addr) (xs : List Int32), lw_P b xs args s := by
  have hs := flat_of_before _ h
  have hq := flat_of_before _ hr
  have hc : (Cond.count 1).before args s = true := hs _ (by decide +kernel)
  have harr : (Cond.arrayOf (.arg 0) .int).before args s = true := hs _ (by decide +kernel)
  have hle : (Cond.le (.length (.arg 0)) (.int 4096)).before args s = true := hs _ (by decide +kernel)
  have hlen : (Cond.isInt (.length (.arg 0))).before args s = true := hq _ (by decide +kernel)
  have hall : (Cond.all (.arg 0) (.isInt (.elem (.arg 0) (.index 0)))).before args s = true := hq _ (by decide +kernel)
  obtain ⟨b, xs, hb, hx⟩ := State.ints_of_pre rfl harr hlen hall
  have hsm : xs.length < 2 ^ 31 := hx.choose_spec.2.2.2
  have hev : (Term.length (.arg 0)).eval args s none [] s = some (.int xs.length.toInt32) := hx.length_eval hb
  have hv := Cond.le_ints hev (show (Term.int 4096).eval args s none [] s = some (.int 4096) from rfl)
  have hd : xs.length.toInt32 ≤ 4096 := by
    simpa [Cond.before, Cond.holds, hv] using hle
  have hN : xs.length ≤ 4096 := (Int32.ofNat_le_ofNat hsm (by decide)).mp (show Int32.ofNat xs.length ≤ Int32.ofNat 4096 from hd)
  exact ⟨b, xs, Cond.one_arg hc (show args[0]? = some (.ref b) from hb), hx, hN, h⟩
theorem lw_comes (l : Launch) (hflags : l.flags = flags0) : Comes l x (Jvm.Cond.code x code maxLocals ret :: tables_1) room_1 (fun tb e args s => Calls_1 tb e args s ∧ rest_1 tb e args s ∧ Pre_1 tb e args s)
    (fun _ _ args s o t => lw_Q args s o t) := by
  intro p e ha hc hk s m args below hf hfit hheap happ hpre
  obtain ⟨b, xs, hP⟩ := lw_pre_spec hpre.2.2 hpre.2.1
  obtain ⟨k, o, h1, h2, h3, hQ⟩ := lw_walk l hflags b xs p e ha hc hk s m args below hf ((Spec.applies_iff_loose hf).mp happ).1 hP trivial
  exact ⟨k, o, h1, h2, h3, hQ⟩
theorem lw_frame {s t : State} {o : Outcome} {args : Array Value} (h : Framed s o t [] 600000 7302250) :
    Framed s o t (fieldLocs frame_1_writes args s ++ arrayLocs frame_1_arrays args s ++ staticLocs frame_1_statics s) 600000 7302250 := h
theorem lw_limb (L : Cond) (hL : ∀ (args : Array Value) (s t : State), L.after args s (.returned (some (.int 1))) t = true) :
    ArmFor flags0 classFile x code maxLocals ret World_1 tables_1 room_1 Calls_1 rest_1 Pre_1
      (fun tb e a s o t => postC L tb e a s o t ∧ Framed s o t (fieldLocs frame_1_writes a s ++ arrayLocs frame_1_arrays a s ++ staticLocs frame_1_statics s) 600000 7302250) := by
  intro l hflags _ _ p e ha hc hk s m args below hf hfit hheap happ hpre
  obtain ⟨k, o, h1, h2, h3, rfl, hF⟩ := lw_comes l hflags p e ha hc hk s m args below hf hfit hheap happ hpre
  exact ⟨k, _, h1, h2, h3, hL args s _, lw_frame hF⟩
theorem i_vc : Claimed_1_1 ∧ Claimed_1_2 := ⟨lw_limb limb_1_1 (fun args s t => by simp [limb_1_1, Cond.after, Cond.holds, Cond.value]), lw_limb limb_1_2 (fun args s t => Cond.after_iff.mpr (by
  first | (rw [show limb_1_2 = Cond.eq .result (.int 1) from rfl, Cond.eq_ints (x := 1) (y := 1) rfl rfl]; simp; done) | (simp [limb_1_2, Cond.value, Term.eval]; done)))⟩
