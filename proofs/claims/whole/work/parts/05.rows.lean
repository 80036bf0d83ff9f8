theorem nt_copy : Cond.native arraycopyName ∈ lw_g := zw_mem 431 (by decide +kernel) rfl
theorem st_copy : Cond.static arraycopyName ∈ lw_g := zw_mem 430 (by decide +kernel) rfl
theorem in_copy : Cond.initialized "java/lang/System" ∈ lw_g := zw_mem 104 (by decide +kernel) rfl
theorem zw_ofW {l : Launch} {y : MethodName} {ws ws' : List Cond} {rm : Room} {Pc : Array Value → State → Prop} {Qc : Array Value → State → Outcome → State → Prop} {mc ms : Nat} {free : Addr → Prop} {cc : ByteArray} {maxL : Nat} {ret : Option FieldType}
    (hy : plainFor y = true) (hw : ws = Cond.code y cc maxL ret :: ws')
    (body : ∀ p e s m args below meth c s₁, BodyLoose p l y (headSpec ws rm) cc maxL ret e s m args below meth c s₁ → c.maxLocals = maxL → Pc args s →
      W p l e (headSpec ws rm).room s m args below meth c s.heap [] 0 0 (MQ below Qc args s mc ms free) (entryFrame m args maxL)) : Met l y ws rm Pc Qc mc ms free := by
  refine MetFree.of_bodySF (code := cc) (maxLocals := maxL) (ret := ret) hy ?_ ?_
  · intro args s m h hn
    obtain ⟨meth, c, h1, h2, h3, h4, h5, h6, -, -⟩ := Cond.code_spec hn (atoms_spec (ws := ws) h _ (by rw [hw]; exact List.mem_cons_self))
    exact ⟨meth, c, h1, h2, h3, h4, h5, h6⟩
  · intro p e s m args below meth c s₁ B hml hP _
    have hh0 : s₁.heap = s.heap := by rw [B.state]; rfl
    obtain ⟨t, a1, o, b1, b2, b3⟩ := body p e s m args below meth c s₁ B hml hP s₁ hh0 (Stand.of_body B)
    exact ⟨t, o, a1, b1, b2, ⟨b3.1, b3.2⟩⟩

set_option maxHeartbeats 4000000 in
theorem zw_enterF {l : Launch} {M : zMM} {args : List zV} {sh : zSh} {mem : zMem} {Q : zQ} {ls : List (Option zV)} (hy : plainFor (zy M) = true) (hlen : (args.map zw_cat).sum ≤ zn M) (hls : zw_in args ++ List.replicate (zn M - (zw_in args).length) none = ls) (k : zw_Wp l M sh 0 ls [] mem (zmc M) (zms M) Q) : zw_Ok l M args sh mem Q := by
  intro G ad hA
  refine zw_ofW (cc := zc M) (maxL := zn M) (ret := zr M) hy rfl ?_
  intro p e s m args0 below meth c s₁ B hml hv
  obtain ⟨rfl, hWd, hlo, hN⟩ := hv
  have hts0 := atoms_spec (ws := Cond.code (zy M) (zc M) (zn M) (zr M) :: lw_g) B.pre
  have hr := B.returns
  have hl := lv_entry (args.map (zw_val ad)) (n := zn M) (by rw [zw_sl]; exact hlen)
  rw [lg_entry_eq]
  generalize (lg_sl (args.map (zw_val ad)) ++ List.replicate (zn M - (lg_sl (args.map (zw_val ad))).length) Slot.unset).toArray = lsM at hl ⊢
  refine k p e _ s m _ below meth c _ G ad sh.1 s.heap [] ad lsM 0 0 ⟨B.exec, B.bytes, hml, findClass_of_methodNamed B.named, fun w hw => hts0 w (List.mem_cons_of_mem _ hw), ⟨(name_of_methodNamed B.named B.method).1, hN⟩, hlo, ⟨Nat.le_refl _, Nat.le_refl _⟩, ?_⟩ ⟨hWd, va_S.rf, ⟨hl.1, hl.2.1, fun i v hi => ?_⟩, trivial, ⟨Nat.le_refl _, fun _ _ => rfl⟩, Nat.le_of_eq (Nat.zero_add _), Nat.le_of_eq (Nat.zero_add _)⟩
  · intro pc r sh' mem' H locs ad' lsM cells slots bc bs hrt hX hQ
    obtain ⟨hW, hS, hL, hT, hE, hc1, hc2⟩ := hX
    have hc1 : cells + bc ≤ zmc M := hc1
    have hc2 : slots + bs ≤ zms M := hc2
    refine W.widen (k := zmc M) (n := zms M) (by omega) (by omega) ?_
    have fin : ∀ t : State, t.heap = H → s.WarmedH t.vm → zw_Qc G ad sh.1 Q (args.map (zw_val ad)).toArray s (.returned (r.map (zw_val ad'))) t := fun t ht hWa => ⟨r, sh', mem', ad', rfl, hT, hQ, hE, by rw [ht]; exact hW.moved hWa.alike, hS.F ht⟩
    rcases r with _ | z | z | z
    · exact W.vret B.exec B.bytes (hr.trans hrt.2) fin hS.2.2 hrt.1
    · rcases hrt.2 with h1 | ⟨h1, h2⟩
      · exact W.iret B.exec B.bytes (hr.trans h1) fin hS.2.2 hrt.1
      · refine W.zret B.exec B.bytes (hr.trans h1) ?_ fin hS.2.2 hrt.1
        rcases h2 with rfl | rfl <;> decide +kernel
    · exact W.lret B.exec B.bytes (hr.trans hrt.2) fin hS.2.2 hrt.1
    · obtain ⟨n, hn⟩ := hrt.2
      exact W.aret B.exec B.bytes (hr.trans hn) (Or.inl ⟨n, rfl⟩) (Or.inr ⟨_, rfl⟩) fin hS.2.2 hrt.1
  · rw [← hls] at hi
    by_cases hil : i < (zw_in args).length
    · rw [List.getElem?_append_left hil] at hi
      obtain ⟨h1, h2⟩ := zw_in_spec ad args 0 i v hi
      rw [Nat.zero_add] at h1
      exact ⟨hl.2.2 _ h1, zw_oks_mem hA v h2⟩
    · rw [List.getElem?_append_right (by omega)] at hi
      have := List.eq_of_mem_replicate (List.mem_of_getElem? hi)
      cases this

theorem zr_lit {n : Int} (h : decide (-2147483648 ≤ n ∧ n < 2147483648) = true) : zw_r32 n := (of_decide_eq_true h : -2147483648 ≤ n ∧ n < 2147483648)
def zw_sub : List (Option zV) → List (Option zV) → Prop
  | [], _ => True
  | none :: a, _ :: b => zw_sub a b
  | some x :: a, y :: b => y = some x ∧ zw_sub a b
  | _ :: _, [] => False
theorem zw_sub_of {ls : List (Option zV)} {a : List (Option zV)} (h : zw_sub a ls) : ∀ (i : Nat) (v : zV), a[i]? = some (some v) → ls[i]? = some (some v) := by
  induction a generalizing ls with
  | nil => intro i v hi; simp at hi
  | cons x a ih =>
    cases ls with
    | nil => cases x <;> exact absurd h (fun q => q)
    | cons y b =>
      intro i v hi
      cases x with
      | none =>
        cases i with
        | zero => simp at hi
        | succ i => simpa using ih (ls := b) h i v (by simpa using hi)
      | some x =>
        cases i with
        | zero =>
          simp at hi
          subst hi
          simp [h.1]
        | succ i => simpa using ih (ls := b) h.2 i v (by simpa using hi)
theorem zw_okA {l : Launch} {M : zMM} {args : List zV} {sh : zSh} {mem : zMem} {Q : zQ} (k : zw_oks sh.1 args → zw_Ok l M args sh mem Q) : zw_Ok l M args sh mem Q := fun G ad hA => k hA G ad hA
theorem wp_rg {l : Launch} {M : zMM} {sh : zSh} {pc : Nat} {ls : List (Option zV)} {st : List zV} {mem : zMem} {bc bs : Nat} {Q : zQ} (k : (∀ i j, -2147483648 ≤ mem i j ∧ mem i j < 2147483648) → zw_Wp l M sh pc ls st mem bc bs Q) : zw_Wp l M sh pc ls st mem bc bs Q := by
  intro p e R s m args below meth c Z G ad0 N0 H locs ad lsM cells slots C X
  exact k (fun i j => X.1.2.2.2.2.1 i j) p e R s m args below meth c Z G ad0 N0 H locs ad lsM cells slots C X
theorem zq_I {Q : zQ} {z z2 : Int} {sh : zSh} {m m2 : zMem} (hz : z = z2) (hm : m = m2) (k : Q (some (zI z2)) sh m2) : Q (some (zI z)) sh m := by subst hz; subst hm; exact k
theorem zq_J {Q : zQ} {z z2 : Int} {sh : zSh} {m m2 : zMem} (hz : z = z2) (hm : m = m2) (k : Q (some (zJ z2)) sh m2) : Q (some (zJ z)) sh m := by subst hz; subst hm; exact k
theorem zq_R {Q : zQ} {z z2 : Nat} {sh : zSh} {m m2 : zMem} (hz : z = z2) (hm : m = m2) (k : Q (some (zR z2)) sh m2) : Q (some (zR z)) sh m := by subst hz; subst hm; exact k
theorem zq_n {Q : zQ} {sh : zSh} {m m2 : zMem} (hm : m = m2) (k : Q none sh m2) : Q none sh m := by subst hm; exact k

theorem wp_iaddC {l : Launch} {M : zMM} {sh : zSh} {pc : Nat} {ls : List (Option zV)} {st : List zV} {mem : zMem} {bc bs : Nat} {Q : zQ} {a b : Int} (hd : decode (zc M) pc = .ok (.iadd, 1)) (h : -2147483648 ≤ a + b ∧ a + b < 2147483648) (k : zw_Wp l M sh (pc + 1) ls (zI (a + b) :: st) mem bc bs Q) : zw_Wp l M sh pc ls (zI b :: zI a :: st) mem bc bs Q := wp_iadd hd (by rw [zwr_id h.1 h.2]; exact k)
theorem wp_isubC {l : Launch} {M : zMM} {sh : zSh} {pc : Nat} {ls : List (Option zV)} {st : List zV} {mem : zMem} {bc bs : Nat} {Q : zQ} {a b : Int} (hd : decode (zc M) pc = .ok (.isub, 1)) (h : -2147483648 ≤ a - b ∧ a - b < 2147483648) (k : zw_Wp l M sh (pc + 1) ls (zI (a - b) :: st) mem bc bs Q) : zw_Wp l M sh pc ls (zI b :: zI a :: st) mem bc bs Q := wp_isub hd (by rw [zwr_id h.1 h.2]; exact k)
theorem wp_imulC {l : Launch} {M : zMM} {sh : zSh} {pc : Nat} {ls : List (Option zV)} {st : List zV} {mem : zMem} {bc bs : Nat} {Q : zQ} {a b : Int} (hd : decode (zc M) pc = .ok (.imul, 1)) (h : -2147483648 ≤ a * b ∧ a * b < 2147483648) (k : zw_Wp l M sh (pc + 1) ls (zI (a * b) :: st) mem bc bs Q) : zw_Wp l M sh pc ls (zI b :: zI a :: st) mem bc bs Q := wp_imul hd (by rw [zwr_id h.1 h.2]; exact k)
theorem wp_inegC {l : Launch} {M : zMM} {sh : zSh} {pc : Nat} {ls : List (Option zV)} {st : List zV} {mem : zMem} {bc bs : Nat} {Q : zQ} {a : Int} (hd : decode (zc M) pc = .ok (.ineg, 1)) (h : -2147483648 ≤ -a ∧ -a < 2147483648) (k : zw_Wp l M sh (pc + 1) ls (zI (-a) :: st) mem bc bs Q) : zw_Wp l M sh pc ls (zI a :: st) mem bc bs Q := wp_ineg hd (by rw [zwr_id h.1 h.2]; exact k)
theorem wp_iincC {l : Launch} {M : zMM} {sh : zSh} {pc : Nat} {ls : List (Option zV)} {st : List zV} {mem : zMem} {bc bs : Nat} {Q : zQ} {k0 : Nat} {n z : Int} {ls2 : List (Option zV)} (hd : decode (zc M) pc = .ok (.iinc k0 n, 3)) (hl : ls[k0]? = some (some (zI z))) (hn : zw_nl ls k0 = true) (hk : k0 < zn M) (h : -2147483648 ≤ z + n ∧ z + n < 2147483648) (hs : ls.set k0 (some (zI (z + n))) = ls2) (k : zw_Wp l M sh (pc + 3) ls2 st mem bc bs Q) : zw_Wp l M sh pc ls st mem bc bs Q := wp_iinc hd hl hn hk (by rw [zwr_id h.1 h.2]; exact hs) k
theorem wp_idivP {l : Launch} {M : zMM} {sh : zSh} {pc : Nat} {ls : List (Option zV)} {st : List zV} {mem : zMem} {bc bs : Nat} {Q : zQ} {a b : Int} (hd : decode (zc M) pc = .ok (.idiv, 1)) (ha : 0 ≤ a ∧ a < 2147483648) (hb : 0 < b) (k : zw_Wp l M sh (pc + 1) ls (zI (a / b) :: st) mem bc bs Q) : zw_Wp l M sh pc ls (zI b :: zI a :: st) mem bc bs Q := by
  refine wp_idiv hd (by omega) ?_
  have e1 : a.tdiv b = a / b := Int.tdiv_eq_ediv_of_nonneg ha.1
  have h1 : 0 ≤ a / b := Int.ediv_nonneg ha.1 (by omega)
  have h2 : a / b ≤ a := Int.ediv_le_self b ha.1
  rw [e1, zwr_id (by omega) (by omega)]
  exact k
theorem wp_iremP {l : Launch} {M : zMM} {sh : zSh} {pc : Nat} {ls : List (Option zV)} {st : List zV} {mem : zMem} {bc bs : Nat} {Q : zQ} {a b : Int} (hd : decode (zc M) pc = .ok (.irem, 1)) (ha : 0 ≤ a) (hb : 0 < b) (k : zw_Wp l M sh (pc + 1) ls (zI (a % b) :: st) mem bc bs Q) : zw_Wp l M sh pc ls (zI b :: zI a :: st) mem bc bs Q := by
  refine wp_irem hd (by omega) ?_
  rw [Int.tmod_eq_emod_of_nonneg ha]
  exact k
theorem wp_laddC {l : Launch} {M : zMM} {sh : zSh} {pc : Nat} {ls : List (Option zV)} {st : List zV} {mem : zMem} {bc bs : Nat} {Q : zQ} {a b : Int} (hd : decode (zc M) pc = .ok (.ladd, 1)) (h : -9223372036854775808 ≤ a + b ∧ a + b < 9223372036854775808) (k : zw_Wp l M sh (pc + 1) ls (zJ (a + b) :: st) mem bc bs Q) : zw_Wp l M sh pc ls (zJ b :: zJ a :: st) mem bc bs Q := wp_ladd hd (by rw [zwl_id h.1 h.2]; exact k)
theorem wp_lsubC {l : Launch} {M : zMM} {sh : zSh} {pc : Nat} {ls : List (Option zV)} {st : List zV} {mem : zMem} {bc bs : Nat} {Q : zQ} {a b : Int} (hd : decode (zc M) pc = .ok (.lsub, 1)) (h : -9223372036854775808 ≤ a - b ∧ a - b < 9223372036854775808) (k : zw_Wp l M sh (pc + 1) ls (zJ (a - b) :: st) mem bc bs Q) : zw_Wp l M sh pc ls (zJ b :: zJ a :: st) mem bc bs Q := wp_lsub hd (by rw [zwl_id h.1 h.2]; exact k)
theorem wp_ldivP {l : Launch} {M : zMM} {sh : zSh} {pc : Nat} {ls : List (Option zV)} {st : List zV} {mem : zMem} {bc bs : Nat} {Q : zQ} {a b : Int} (hd : decode (zc M) pc = .ok (.ldiv, 1)) (ha : 0 ≤ a ∧ a < 2147483648) (hb : 0 < b) (k : zw_Wp l M sh (pc + 1) ls (zJ (a / b) :: st) mem bc bs Q) : zw_Wp l M sh pc ls (zJ b :: zJ a :: st) mem bc bs Q := by
  refine wp_ldiv hd (by omega) ?_
  have e1 : a.tdiv b = a / b := Int.tdiv_eq_ediv_of_nonneg ha.1
  have h1 : 0 ≤ a / b := Int.ediv_nonneg ha.1 (by omega)
  have h2 : a / b ≤ a := Int.ediv_le_self b ha.1
  rw [e1, zwl_id (by omega) (by omega)]
  exact k
theorem wp_lremP {l : Launch} {M : zMM} {sh : zSh} {pc : Nat} {ls : List (Option zV)} {st : List zV} {mem : zMem} {bc bs : Nat} {Q : zQ} {a b : Int} (hd : decode (zc M) pc = .ok (.lrem, 1)) (ha : 0 ≤ a) (hb : 0 < b) (k : zw_Wp l M sh (pc + 1) ls (zJ (a % b) :: st) mem bc bs Q) : zw_Wp l M sh pc ls (zJ b :: zJ a :: st) mem bc bs Q := by
  refine wp_lrem hd (by omega) ?_
  rw [Int.tmod_eq_emod_of_nonneg ha]
  exact k
theorem wp_getZ {l : Launch} {M : zMM} {sh : zSh} {pc : Nat} {ls : List (Option zV)} {st : List zV} {mem : zMem} {bc bs : Nat} {Q : zQ} {idx ci kf n i : Nat} (z : Int) (hz : ((kf : Nat) : Int) = z) (hd : decode (zc M) pc = .ok (.getfield idx, 3)) (hf : zw_gf (zy M).cls idx ci kf) (hr : zw_isr ci kf = false) (hk : sh.2.1 i = (ci + 3, n)) (hn : kf < n) (hi : i < sh.1) (k : zw_Wp l M sh (pc + 3) ls (zI (mem i z) :: st) mem bc bs Q) : zw_Wp l M sh pc ls (zR i :: st) mem bc bs Q := wp_getI hd hf hr hk hn hi (by rw [hz]; exact k)
theorem wp_getV {l : Launch} {M : zMM} {sh : zSh} {pc : Nat} {ls : List (Option zV)} {st : List zV} {mem : zMem} {bc bs : Nat} {Q : zQ} {idx ci kf n i : Nat} (z : Int) {v : Int} (hz : ((kf : Nat) : Int) = z) (hv : mem i z = v) (hd : decode (zc M) pc = .ok (.getfield idx, 3)) (hf : zw_gf (zy M).cls idx ci kf) (hr : zw_isr ci kf = false) (hk : sh.2.1 i = (ci + 3, n)) (hn : kf < n) (hi : i < sh.1) (k : zw_Wp l M sh (pc + 3) ls (zI v :: st) mem bc bs Q) : zw_Wp l M sh pc ls (zR i :: st) mem bc bs Q := wp_getI hd hf hr hk hn hi (by rw [hz, hv]; exact k)
theorem wp_ialdV {l : Launch} {M : zMM} {sh : zSh} {pc : Nat} {ls : List (Option zV)} {st : List zV} {mem : zMem} {bc bs : Nat} {Q : zQ} {n i : Nat} {j v : Int} (hv : mem i j = v) (hd : decode (zc M) pc = .ok (.iaload, 1)) (hk : sh.2.1 i = (0, n)) (hi : i < sh.1) (h0 : 0 ≤ j) (h1 : j < n) (k : zw_Wp l M sh (pc + 1) ls (zI v :: st) mem bc bs Q) : zw_Wp l M sh pc ls (zI j :: zR i :: st) mem bc bs Q := wp_iald hd hk hi h0 h1 (by rw [hv]; exact k)
theorem wp_baldV {l : Launch} {M : zMM} {sh : zSh} {pc : Nat} {ls : List (Option zV)} {st : List zV} {mem : zMem} {bc bs : Nat} {Q : zQ} {n i : Nat} {j v : Int} (hv : mem i j = v) (hd : decode (zc M) pc = .ok (.baload, 1)) (hk : sh.2.1 i = (1, n)) (hi : i < sh.1) (h0 : 0 ≤ j) (h1 : j < n) (k : zw_Wp l M sh (pc + 1) ls (zI v :: st) mem bc bs Q) : zw_Wp l M sh pc ls (zI j :: zR i :: st) mem bc bs Q := wp_bald hd hk hi h0 h1 (by rw [hv]; exact k)
theorem wp_putzI {l : Launch} {M : zMM} {sh : zSh} {pc : Nat} {ls : List (Option zV)} {st : List zV} {mem : zMem} {bc bs : Nat} {Q : zQ} {idx ci kf n i : Nat} {v : Int} (z : Int) (hz : ((kf : Nat) : Int) = z) (hd : decode (zc M) pc = .ok (.putfield idx, 3)) (hf : zw_pf (zy M).cls idx ci kf .int false) (hr : zw_isr ci kf = false) (hk : sh.2.1 i = (ci + 3, n)) (hn : kf < n) (hi : i < sh.1) (k : zw_Wp l M sh (pc + 3) ls st (zu mem i z v) bc bs Q) : zw_Wp l M sh pc ls (zI v :: zR i :: st) mem bc bs Q := wp_putI hd hf hr hk hn hi (by rw [hz]; exact k)
theorem wp_putzZ {l : Launch} {M : zMM} {sh : zSh} {pc : Nat} {ls : List (Option zV)} {st : List zV} {mem : zMem} {bc bs : Nat} {Q : zQ} {idx ci kf n i : Nat} {v : Int} (z : Int) (hz : ((kf : Nat) : Int) = z) (hd : decode (zc M) pc = .ok (.putfield idx, 3)) (hf : zw_pf (zy M).cls idx ci kf .boolean false) (hr : zw_isr ci kf = false) (hk : sh.2.1 i = (ci + 3, n)) (hn : kf < n) (hi : i < sh.1) (hv : v = 0 ∨ v = 1) (k : zw_Wp l M sh (pc + 3) ls st (zu mem i z v) bc bs Q) : zw_Wp l M sh pc ls (zI v :: zR i :: st) mem bc bs Q := wp_putZ hd hf hr hk hn hi hv (by rw [hz]; exact k)
/-! bits of numbers that are not negative -/
theorem zb_shl {a b : Int} (ha : 0 ≤ a) (hb : 0 ≤ b ∧ b < 31) (h : a * 2 ^ b.toNat < 2147483648) : (Int32.ofInt a <<< (Int32.ofInt b &&& 31)).toInt = a * 2 ^ b.toNat := by
  obtain ⟨x, rfl⟩ := Int.eq_ofNat_of_zero_le ha
  obtain ⟨y, rfl⟩ := Int.eq_ofNat_of_zero_le hb.1
  have hy : y < 31 := by omega
  rw [Int.toNat_natCast] at h ⊢
  have h2 : x * 2 ^ y < 2147483648 := by
    have e : ((x : Int) * 2 ^ y) = ((x * 2 ^ y : Nat) : Int) := by simp
    rw [e] at h
    omega
  have e1 : Int32.ofInt (x : Int) = nI x := Int32.ofInt_eq_ofNat
  have e2 : Int32.ofInt (y : Int) = nI y := Int32.ofInt_eq_ofNat
  have hs : ((nI y &&& 31).toBitVec.smod 32).toNat = y := by
    have : ∀ n : Fin 31, ((nI n.val &&& 31).toBitVec.smod 32).toNat = n.val := by decide +kernel
    exact this ⟨y, hy⟩
  rw [e1, e2, pk_shlN _ y hs (by omega), nI_toInt (by omega)]
  simp
theorem zb_shr {a b : Int} (ha : 0 ≤ a ∧ a < 2147483648) (hb : 0 ≤ b ∧ b < 31) : (Int32.ofInt a >>> (Int32.ofInt b &&& 31)).toInt = a / 2 ^ b.toNat := by
  obtain ⟨x, rfl⟩ := Int.eq_ofNat_of_zero_le ha.1
  obtain ⟨y, rfl⟩ := Int.eq_ofNat_of_zero_le hb.1
  have hy : y < 31 := by omega
  rw [Int.toNat_natCast]
  have e1 : Int32.ofInt (x : Int) = nI x := Int32.ofInt_eq_ofNat
  have e2 : Int32.ofInt (y : Int) = nI y := Int32.ofInt_eq_ofNat
  have hs : ((nI y &&& 31).toBitVec.smod 32).toNat = y := by
    have : ∀ n : Fin 31, ((nI n.val &&& 31).toBitVec.smod 32).toNat = n.val := by decide +kernel
    exact this ⟨y, hy⟩
  have hx : x < 2 ^ 31 := by omega
  rw [e1, e2, pk_shrN hx _ y hs, nI_toInt (Nat.lt_of_le_of_lt (Nat.div_le_self _ _) hx)]
  simp
theorem zb_and1 {a : Int} (ha : 0 ≤ a ∧ a < 2147483648) : (Int32.ofInt a &&& Int32.ofInt 1).toInt = a % 2 := by
  obtain ⟨x, rfl⟩ := Int.eq_ofNat_of_zero_le ha.1
  have e1 : Int32.ofInt (x : Int) = nI x := Int32.ofInt_eq_ofNat
  have hx : x < 2 ^ 32 := by omega
  rw [e1, pk_andN hx 1 (by decide +kernel), nI_toInt (by omega)]
  simp

theorem wp_ishlP {l : Launch} {M : zMM} {sh : zSh} {pc : Nat} {ls : List (Option zV)} {st : List zV} {mem : zMem} {bc bs : Nat} {Q : zQ} {a b : Int} (hd : decode (zc M) pc = .ok (.ishl, 1)) (ha : 0 ≤ a) (hb : 0 ≤ b ∧ b < 31) (h : a * 2 ^ b.toNat < 2147483648) (k : zw_Wp l M sh (pc + 1) ls (zI (a * 2 ^ b.toNat) :: st) mem bc bs Q) : zw_Wp l M sh pc ls (zI b :: zI a :: st) mem bc bs Q := wp_ishl hd (by rw [zb_shl ha hb h]; exact k)
theorem wp_ishrP {l : Launch} {M : zMM} {sh : zSh} {pc : Nat} {ls : List (Option zV)} {st : List zV} {mem : zMem} {bc bs : Nat} {Q : zQ} {a b : Int} (hd : decode (zc M) pc = .ok (.ishr, 1)) (ha : 0 ≤ a ∧ a < 2147483648) (hb : 0 ≤ b ∧ b < 31) (k : zw_Wp l M sh (pc + 1) ls (zI (a / 2 ^ b.toNat) :: st) mem bc bs Q) : zw_Wp l M sh pc ls (zI b :: zI a :: st) mem bc bs Q := wp_ishr hd (by rw [zb_shr ha hb]; exact k)
theorem wp_iand1 {l : Launch} {M : zMM} {sh : zSh} {pc : Nat} {ls : List (Option zV)} {st : List zV} {mem : zMem} {bc bs : Nat} {Q : zQ} {a : Int} (hd : decode (zc M) pc = .ok (.iand, 1)) (ha : 0 ≤ a ∧ a < 2147483648) (k : zw_Wp l M sh (pc + 1) ls (zI (a % 2) :: st) mem bc bs Q) : zw_Wp l M sh pc ls (zI 1 :: zI a :: st) mem bc bs Q := wp_iand hd (by rw [zb_and1 ha]; exact k)
/-- a stretch of ints is copied -/
def zcp (mem : zMem) (i : Nat) (sp : Int) (j : Nat) (dp n : Int) : zMem := fun a b => if a = j ∧ dp ≤ b ∧ b < dp + n then mem i (sp + (b - dp)) else mem a b
theorem zcp_row {mem : zMem} {i j a : Nat} {sp dp n : Int} (h : a ≠ j) : zcp mem i sp j dp n a = mem a := by
  funext b
  unfold zcp
  rw [if_neg (fun q => h q.1)]
theorem zcp_in {mem : zMem} {i j : Nat} {sp dp n b : Int} (h1 : dp ≤ b) (h2 : b < dp + n) : zcp mem i sp j dp n j b = mem i (sp + (b - dp)) := by
  unfold zcp
  rw [if_pos ⟨rfl, h1, h2⟩]
theorem zcp_out {mem : zMem} {i j : Nat} {sp dp n b : Int} (h : b < dp ∨ dp + n ≤ b) : zcp mem i sp j dp n j b = mem j b := by
  unfold zcp
  rw [if_neg (fun q => by rcases h with h | h <;> omega)]
set_option maxHeartbeats 4000000 in
theorem wp_copy {l : Launch} {M : zMM} {sh : zSh} {pc : Nat} {ls : List (Option zV)} {st : List zV} {mem : zMem} {bc bs : Nat} {Q : zQ} {idx i j ni nj : Nat} {sp dp n : Int} (hd : decode (zc M) pc = .ok (.invokestatic idx, 3)) (hl : Cond.methodLink (zy M).cls idx arraycopyName ∈ lw_g) (hki : sh.2.1 i = (0, ni)) (hi : i < sh.1) (hkj : sh.2.1 j = (0, nj)) (hj : j < sh.1) (h1 : 0 ≤ sp) (h2 : 0 ≤ dp) (h3 : 0 ≤ n) (h4 : sp + n ≤ ni) (h5 : dp + n ≤ nj) (hF : 1 ≤ zF M) (hLo : (st.map zw_cat).sum + 18 ≤ zL M)
    (k : zw_Wp l M sh (pc + 3) ls st (zcp mem i sp j dp n) bc bs Q) : zw_Wp l M sh pc ls (zI n :: zI dp :: zR j :: zI sp :: zR i :: st) mem bc bs Q := by
  intro p e R s m args below meth c Z G ad0 N0 H locs ad lsM cells slots C X
  obtain ⟨hW, hS, hL, hT, hE⟩ := X
  have hts := C.2.2.2.2.1
  obtain ⟨hrn, hrd, -, hrs, -, hTr⟩ := hT
  have en : zw_r32 n := hrn
  have ed : zw_r32 dp := hrd
  have es : zw_r32 sp := hrs
  have cl : ∀ z : Int, zw_r32 z → 0 ≤ z → ¬ Int32.ofInt z < 0 ∧ (Int32.ofInt z).toNatClampNeg = z.toNat := by
    intro z hz h0
    refine ⟨?_, ?_⟩
    · rw [← zo_0, zo_lt hz z32_0]; omega
    · show (Int32.ofInt z).toInt.toNat = _
      rw [zt_of hz]
  obtain ⟨a1, a2⟩ := cl sp es h1
  obtain ⟨b1, b2⟩ := cl dp ed h2
  obtain ⟨c1, c2⟩ := cl n en h3
  refine va_copyi (ty := .int) C.1 C.2.1 (by rw [C.2.2.1]; exact hL.1.symm) C.2.2.2.1 (hts _ hl) (hts _ nt_copy) (hts _ st_copy) (hts _ in_copy) hW.1 hW.2.1 hW.2.2.1 hS i j 0 0 (zw_at_ia hki hi) (zw_at_ia hkj hj) rfl rfl rfl a1 b1 c1 (by rw [a2, c2]; omega) (by rw [b2, c2]; omega) (fun _ _ => rfl) (Nat.le_trans hF C.2.2.2.2.2.2.2.1.1) (by rw [zw_catsum]; exact Nat.le_trans hLo C.2.2.2.2.2.2.2.1.2) hd (fun H1 locs1 hP1 hD1 hS1 => ?_)
  rw [a2, b2, c2] at hP1 hD1
  have he : (.inl (G.2.1.1, nj, .inl (va_cpy (fun k => Int32.ofInt (mem i k)) (fun k => Int32.ofInt (mem j k)) sp.toNat dp.toNat n.toNat)) : va_E) = zw_ent G ad sh (zcp mem i sp j dp n) j := by
    unfold zw_ent
    rw [hkj]
    show (Sum.inl (G.2.1.1, nj, Sum.inl _) : va_E) = Sum.inl (G.2.1.1, nj, Sum.inl _)
    congr 4
    funext x
    unfold va_cpy
    by_cases hx : dp.toNat ≤ x ∧ x < dp.toNat + n.toNat
    · rw [if_pos hx, zcp_in (by omega) (by omega)]
      have ex : ((sp.toNat + (x - dp.toNat) : Nat) : Int) = sp + ((x : Int) - dp) := by omega
      show Int32.ofInt (mem i ((sp.toNat + (x - dp.toNat) : Nat) : Int)) = _
      rw [ex]
    · rw [if_neg hx, zcp_out (by omega)]
  have e1 : (zw_ws G ad sh mem).set j (ad j, zw_ent G ad sh (zcp mem i sp j dp n) j) = zw_ws G ad sh (zcp mem i sp j dp n) := zw_ws_set hj rfl (fun q _ hq => zw_ent_ne (zcp_row hq))
  rw [he, e1] at hP1 hD1
  have hr2 : zw_rg sh (zcp mem i sp j dp n) := by
    refine ⟨fun a b => ?_, hW.2.2.2.2.2⟩
    unfold zcp
    split
    · exact hW.2.2.2.2.1 _ _
    · exact hW.2.2.2.2.1 _ _
  exact k p e R s m args below meth c Z G ad0 N0 H1 locs1 ad lsM cells slots C ⟨⟨hW.1, hP1, hD1, zw_Ro.upd (fun q hq => zcp_row (by have := hW.2.2.2.2.2.2; omega)) (zw_Ro.step C.2.2.2.2.2.2.1 hS hS1 hW.2.2.2.1), hr2⟩, hS1, hL, hTr, hE⟩
