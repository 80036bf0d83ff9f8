/-! ===== contracts and calls ===== -/
def zw_Qc (G : zG) (ad : Nat → Nat) (N : Nat) (Q : zQ) : Array Value → State → Outcome → State → Prop := fun _ st oc t => ∃ (r : Option zV) (sh' : zSh) (mem' : zMem) (ad' : Nat → Nat), oc = .returned (r.map (zw_val ad')) ∧ zw_oks sh'.1 r.toList ∧ Q r sh' mem' ∧ (N ≤ sh'.1 ∧ ∀ i, zw_ix N i → ad' i = ad i) ∧ zw_Wd G ad' sh' mem' t t.heap ∧ va_F (fun q => G.2.2 ≤ q) st t
abbrev zw_rm (M : zMM) : Room := { frames := zF M, cells := zmc M, slots := zms M, locals := zL M }
def zw_Pc (G : zG) (ad : Nat → Nat) (sh : zSh) (mem : zMem) (args : List zV) : Array Value → State → Prop := va_Pc (args.map (zw_val ad)) (fun U => zw_Wd G ad sh mem U U.heap ∧ G.2.2 ≤ U.heap.size ∧ zw_N U)
/-- a call of M with these arguments, in this world, comes back with Q -/
def zw_Ok (l : Launch) (M : zMM) (args : List zV) (sh : zSh) (mem : zMem) (Q : zQ) : Prop := ∀ (G : zG) (ad : Nat → Nat), zw_oks sh.1 args → Met l (zy M) (Cond.code (zy M) (zc M) (zn M) (zr M) :: lw_g) (zw_rm M) (zw_Pc G ad sh mem args) (zw_Qc G ad sh.1 Q) (zmc M) (zms M) (fun q => G.2.2 ≤ q)
def zw_in : List zV → List (Option zV)
  | [] => []
  | .inr (.inl z) :: t => some (zJ z) :: none :: zw_in t
  | .inl z :: t => some (zI z) :: zw_in t
  | .inr (.inr z) :: t => some (zR z) :: zw_in t
theorem zw_in_spec (ad : Nat → Nat) : ∀ (args : List zV) (i0 i : Nat) (v : zV), (zw_in args)[i]? = some (some v) → (i0 + i, zw_val ad v) ∈ lv_args i0 (args.map (zw_val ad)) ∧ v ∈ args
  | [], i0, i, v, h => by simp [zw_in] at h
  | .inl z :: t, i0, i, v, h => by
    simp only [zw_in] at h
    cases i with
    | zero =>
      simp at h
      subst h
      exact ⟨List.mem_cons_self, List.mem_cons_self⟩
    | succ i =>
      simp at h
      obtain ⟨h1, h2⟩ := zw_in_spec ad t (i0 + 1) i v h
      refine ⟨List.mem_cons_of_mem _ ?_, List.mem_cons_of_mem _ h2⟩
      have e : i0 + (i + 1) = i0 + 1 + i := by omega
      rw [e]
      exact h1
  | .inr (.inr z) :: t, i0, i, v, h => by
    simp only [zw_in] at h
    cases i with
    | zero =>
      simp at h
      subst h
      exact ⟨List.mem_cons_self, List.mem_cons_self⟩
    | succ i =>
      simp at h
      obtain ⟨h1, h2⟩ := zw_in_spec ad t (i0 + 1) i v h
      refine ⟨List.mem_cons_of_mem _ ?_, List.mem_cons_of_mem _ h2⟩
      have e : i0 + (i + 1) = i0 + 1 + i := by omega
      rw [e]
      exact h1
  | .inr (.inl z) :: t, i0, i, v, h => by
    simp only [zw_in] at h
    cases i with
    | zero =>
      simp at h
      subst h
      exact ⟨List.mem_cons_self, List.mem_cons_self⟩
    | succ i =>
      cases i with
      | zero => simp at h
      | succ i =>
        simp at h
        obtain ⟨h1, h2⟩ := zw_in_spec ad t (i0 + 2) i v h
        refine ⟨List.mem_cons_of_mem _ ?_, List.mem_cons_of_mem _ h2⟩
        have e : i0 + (i + 1 + 1) = i0 + 2 + i := by omega
        rw [e]
        exact h1
theorem zw_sl (ad : Nat → Nat) : ∀ (args : List zV), (lg_sl (args.map (zw_val ad))).length = (args.map zw_cat).sum
  | [] => rfl
  | v :: t => by
    have ih := zw_sl ad t
    unfold lg_sl at ih ⊢
    rw [List.map_cons, List.flatMap_cons, List.length_append, ih, List.map_cons, List.sum_cons, zw_catv]
    rcases v with z | z | z <;> simp [zw_cat]
set_option maxHeartbeats 4000000 in
theorem zw_enter {l : Launch} {M : zMM} {args : List zV} {sh : zSh} {mem : zMem} {Q : zQ} {ls : List (Option zV)} (hy : plainName (zy M).cls = true) (hlen : (args.map zw_cat).sum ≤ zn M) (hls : zw_in args ++ List.replicate (zn M - (zw_in args).length) none = ls) (k : zw_Wp l M sh 0 ls [] mem (zmc M) (zms M) Q) : zw_Ok l M args sh mem Q := by
  intro G ad hA
  refine Met.ofW (cc := zc M) (maxL := zn M) (ret := zr M) hy rfl ?_
  intro p e s m args0 below meth c s₁ B hml hv
  obtain ⟨rfl, hWd, hlo, hN⟩ := hv
  have hts0 := atoms_spec (ws := Cond.code (zy M) (zc M) (zn M) (zr M) :: lw_g) B.pre
  have hr := B.returns
  have hl := lv_entry (args.map (zw_val ad)) (n := zn M) (by rw [zw_sl]; exact hlen)
  rw [lg_entry_eq]
  generalize (lg_sl (args.map (zw_val ad)) ++ List.replicate (zn M - (lg_sl (args.map (zw_val ad))).length) Slot.unset).toArray = lsM at hl ⊢
  refine k p e _ s m _ below meth c _ G ad sh.1 s.heap [] ad lsM 0 0 ⟨B.exec, B.bytes, hml, findClass_of_methodNamed B.named, fun w hw => hts0 w (List.mem_cons_of_mem _ hw), ⟨(name_of_methodNamed B.named B.method).1, hN⟩, hlo, ⟨Nat.le_refl _, Nat.le_refl _⟩, ?_⟩ ⟨hWd, va_S.rf, ⟨hl.1, hl.2.1, fun i v hi => ?_⟩, trivial, ⟨Nat.le_refl _, fun _ _ => rfl⟩, Nat.le_of_eq (Nat.zero_add _), Nat.le_of_eq (Nat.zero_add _)⟩
  · intro pc r sh' mem' H locs ad' lsM cells slots bc bs hrt hX hQ
    obtain ⟨hW, hS, hL, hT, hE, hc1, hc2⟩ := hX
    have hc1 : cells + bc ≤ zmc M := hc1
    have hc2 : slots + bs ≤ zms M := hc2
    refine W.widen (k := zmc M) (n := zms M) (by omega) (by omega) ?_
    have fin : ∀ t : State, t.heap = H → s.WarmedH t.vm → zw_Qc G ad sh.1 Q (args.map (zw_val ad)).toArray s (.returned (r.map (zw_val ad'))) t := fun t ht hWa => ⟨r, sh', mem', ad', rfl, hT, hQ, hE, by rw [ht]; exact hW.moved hWa.alike, hS.F ht⟩
    rcases r with _ | z | z | z
    · exact W.vret B.exec B.bytes (hr.trans hrt.2) fin hS.2.2 hrt.1
    · rcases hrt.2 with h1 | ⟨h1, h2⟩
      · exact W.iret B.exec B.bytes (hr.trans h1) fin hS.2.2 hrt.1
      · refine W.zret B.exec B.bytes (hr.trans h1) ?_ fin hS.2.2 hrt.1
        rcases h2 with rfl | rfl <;> decide +kernel
    · exact W.lret B.exec B.bytes (hr.trans hrt.2) fin hS.2.2 hrt.1
    · obtain ⟨n, hn⟩ := hrt.2
      exact W.aret B.exec B.bytes (hr.trans hn) (Or.inl ⟨n, rfl⟩) (Or.inr ⟨_, rfl⟩) fin hS.2.2 hrt.1
  · rw [← hls] at hi
    by_cases hil : i < (zw_in args).length
    · rw [List.getElem?_append_left hil] at hi
      obtain ⟨h1, h2⟩ := zw_in_spec ad args 0 i v hi
      rw [Nat.zero_add] at h1
      exact ⟨hl.2.2 _ h1, zw_oks_mem hA v h2⟩
    · rw [List.getElem?_append_right (by omega)] at hi
      have := List.eq_of_mem_replicate (List.mem_of_getElem? hi)
      cases this
theorem zw_Ok.mono {l : Launch} {M : zMM} {args : List zV} {sh : zSh} {mem : zMem} {Q Q2 : zQ} (h : ∀ r s2 m2, Q r s2 m2 → Q2 r s2 m2) (k : zw_Ok l M args sh mem Q) : zw_Ok l M args sh mem Q2 := by
  intro G ad hA
  have h1 := k G ad hA
  refine MetFree.mono (K' := fun _ _ _ _ _ => True) h1 (fun _ _ q => q) (fun _ _ _ _ _ q => q) ?_
  rintro a st o t - ⟨⟨r, sh', mem', ad', e1, e2, e3, e4⟩, e5⟩
  exact ⟨⟨r, sh', mem', ad', e1, e2, h _ _ _ e3, e4⟩, e5⟩
theorem zw_good {w : Cond} (h : w ∈ lw_g) : GoodIn lw_g (w :: lw_g) := by
  intro x hx
  have hm : x ∈ lw_g := by
    rcases List.mem_cons.mp hx with rfl | h1
    · exact h
    · exact h1
  exact ⟨hm, good_of_word (List.mem_filter.mp hm).2⟩
theorem zw_Ls.ext {M : zMM} {ad ad' : Nat → Nat} {N N' : Nat} {ls : List (Option zV)} {lsM : Array Slot} (h : zw_Ls M ad N ls lsM) (hN : N ≤ N') (he : ∀ i, zw_ix N i → ad' i = ad i) : zw_Ls M ad' N' ls lsM := by
  refine ⟨h.1, h.2.1, fun i v hi => ?_⟩
  obtain ⟨h1, h2⟩ := h.2.2 i v hi
  exact ⟨by rw [zw_val_ext he h2]; exact h1, zw_ok_mono hN h2⟩
theorem zw_N.same {u U : State} (h : u.vm = U.vm) (k : zw_N u) : zw_N U := ⟨fun q hq => va_Nw.same rfl h (k.1 q hq), va_AO.moved (by rw [h]; exact Vm.Alike.refl _) k.2⟩
theorem zw_N.warm {s U : State} (hW : s.WarmedH U.vm) (k : zw_N s) : zw_N U := ⟨fun q hq => va_Nw.warmM hW (k.1 q hq), va_AO.moved hW.alike k.2⟩
theorem zw_blind {G : zG} {ad : Nat → Nat} {sh : zSh} {mem : zMem} {args : List zV} : FrameBlind (zw_Pc G ad sh mem args) := fun a U g mk q => ⟨q.1, zw_Wd.moved (u := U) (U := U.calling g mk a) (Vm.Alike.refl U.vm) q.2.1, q.2.2.1, zw_N.same (u := U) (U := U.calling g mk a) rfl q.2.2.2⟩
theorem zw_catsum (ad : Nat → Nat) (rest : List zV) : ((rest.map (zw_val ad)).map fun v => v.category).sum = (rest.map zw_cat).sum := by
  rw [List.map_map]
  congr 1
  apply List.map_congr_left
  intro v _
  exact zw_catv ad v
set_option maxHeartbeats 4000000 in
theorem zw_go {p : Program} {l : Launch} {e : Env} {R : Room} {s : State} {m : MethodId} {args : Array Value} {below : List Frame} {meth : Method} {c : Code} {H : Heap} {locs : List Loc} {cells slots mc ms pc : Nat} {Z : State → Prop} {lsM : Array Slot} {st0 rest : List Value} {G : zG} {ad : Nat → Nat} {N : Nat} {Q : zQ} {a : Array Value}
    (hr : va_Run p l e R s m args below meth c H locs cells slots mc ms (F0 m pc lsM st0) rest (zw_Qc G ad N Q a) (fun q => G.2.2 ≤ q)) (hS : va_S (fun q => G.2.2 ≤ q) s.heap H locs)
    (kk : ∀ (r : Option zV) (sh' : zSh) (mem' : zMem) (ad' : Nat → Nat) (H1 : Heap) (locs1 : List Loc), zw_oks sh'.1 r.toList → Q r sh' mem' → (N ≤ sh'.1 ∧ ∀ i, zw_ix N i → ad' i = ad i) → zw_Wd G ad' sh' mem' s H1 → va_S (fun q => G.2.2 ≤ q) s.heap H1 locs1 → W p l e R s m args below meth c H1 locs1 (cells + mc) (slots + ms) Z (F0 m (pc + 3) lsM (r.toList.map (zw_val ad') ++ rest))) :
    W p l e R s m args below meth c H locs cells slots Z (F0 m pc lsM st0) := by
  intro T hT X
  obtain ⟨v, st₀, t, T', L, h0, X', hL, e1, e2, ⟨r, sh', mem', ad', hv, hok, hq, hext, hwd, hz, hk⟩, st⟩ := hr T hT X
  cases hv
  rw [h0] at hz hk
  have hwd2 : zw_Wd G ad' sh' mem' s T'.heap := by rw [e1]; exact hwd.moved (by rw [← e2]; exact X'.warmed.alike.symm)
  obtain ⟨t2, a1, b1⟩ := kk r sh' mem' ad' T'.heap (locs ++ L) hok hq hext hwd2
    ⟨Nat.le_trans hS.1 (by rw [e1]; exact hz), fun q h1 h2 => by rw [e1, hk q (Nat.lt_of_lt_of_le h1 hS.1) h2]; exact hS.2.1 q h1 h2, fun q hq => by
      rcases List.mem_append.mp hq with h | h
      · exact hS.2.2 q h
      · exact hL q h⟩ T' rfl X'
  refine ⟨t2, st t2 ?_, b1⟩
  cases r <;> exact a1
def zw_mt (M : zMM) (n : Nat) : Prop := Cond.code (zy M) (zc M) (zn M) (zr M) ∈ lw_g ∧ Cond.initialized (zy M).cls ∈ lw_g ∧ ((zy M).cls ≠ "java/lang/invoke/MethodHandle" ∧ (zy M).cls ≠ "java/lang/invoke/VarHandle" ∧ (parseMethodDescriptor (zy M).desc).map (fun d => d.parameters.length) = some n)
def zw_mV (M : zMM) (n : Nat) : Prop := zw_mt M n ∧ Cond.instanceMethod (zy M) ∈ lw_g ∧ Cond.selects (zy M).cls (zy M) (zy M) ∈ lw_g
def zw_mS (M : zMM) (n : Nat) : Prop := zw_mt M n ∧ Cond.static (zy M) ∈ lw_g
def zw_mC (M : zMM) (n : Nat) : Prop := zw_mt M n ∧ Cond.instanceMethod (zy M) ∈ lw_g ∧ (zy M).name = "<init>" ∧ zr M = none
set_option maxHeartbeats 4000000 in
theorem wp_callV {l : Launch} {M : zMM} {sh : zSh} {pc : Nat} {ls : List (Option zV)} {mem : zMem} {bc bs : Nat} {Q : zQ} {M' : zMM} {n idx : Nat} {As rest st0 : List zV} {ci nf i : Nat} (hd : decode (zc M) pc = .ok (.invokevirtual idx, 3)) (hl : Cond.methodLink (zy M).cls idx (zy M') ∈ lw_g) (hm : zw_mV M' n) (hk : sh.2.1 i = (ci + 3, nf)) (hi : i < sh.1) (hc : ∃ (T : u_T) (N : Nat), vwCl[ci]? = some ((zy M').cls, T, N)) (hn : As.length = n) (hF : zF M' + 1 ≤ zF M ∧ 8 + (zn M' + 11) + zL M' ≤ zL M) (hb : zmc M' ≤ bc ∧ zms M' ≤ bs) (hs : (rest.map zw_cat).sum ≤ 8) (hst : As.reverse ++ zR i :: rest = st0) (k : zw_Ok l M' (zR i :: As) sh mem (fun r sh' mem' => zw_Wp l M sh' (pc + 3) ls (r.toList ++ rest) mem' (bc - zmc M') (bs - zms M') Q)) : zw_Wp l M sh pc ls st0 mem bc bs Q := by
  subst hst
  intro p e R s m args below meth c Z G ad0 N0 H locs ad lsM cells slots C X
  obtain ⟨hW, hS, hL, hT, hE⟩ := X
  have hts := C.2.2.2.2.1
  have hRo := C.2.2.2.2.2.2.2.1
  obtain ⟨T0, NT, hc⟩ := hc
  obtain ⟨hT1, hT2, hTr⟩ : zw_oks sh.1 As.reverse ∧ zw_ok sh.1 (zR i) ∧ zw_oks sh.1 rest := by
    have h := zw_oks_app.mp hT
    exact ⟨h.1, h.2.1, h.2.2⟩
  have hM := k G ad ⟨hT2, zw_oks_rev.mp hT1⟩
  have hrun : va_Run p l e R s m args below meth c H locs cells slots (zmc M') (zms M') (F0 m pc lsM ((As.reverse ++ zR i :: rest).map (zw_val ad))) (rest.map (zw_val ad)) (zw_Qc G ad sh.1 _ (Value.ref (ad i) :: As.map (zw_val ad)).toArray) (fun q => G.2.2 ≤ q) :=
    va_runV (C := (zy M').cls) (n := n) (b := ad i) (As := As.map (zw_val ad)) ⟨C.1, C.2.1, C.2.2.1, C.2.2.2.1, C.2.2.2.2.1⟩ hM ⟨callB_of n hts (zw_good hm.1.1) rfl rfl rfl (hts _ hm.1.2.1) (hts _ hl) hm.1.2.2 ⟨by have := hF.1; have := hRo.1; show zF M' + 1 ≤ _; omega, by have := hF.2; have := hRo.2; show 8 + (zn M' + 11) + zL M' ≤ _; omega⟩, hts _ hm.2.1, hts _ hm.2.2⟩ ⟨zw_blind, va_recv hW.1 hW.2.1 hc (zw_at_ob hk hi), fun U hU hWa => ⟨rfl, by rw [hU]; exact hW.moved hWa.alike, by rw [hU]; exact Nat.le_trans C.2.2.2.2.2.2.1 hS.1, zw_N.warm hWa C.2.2.2.2.2.1.2⟩⟩
      rfl (by rw [List.length_map]; exact hn) hL.1 (by simp [List.map_append, List.map_reverse, zw_val]) (lv_room (by rw [zw_catsum]; exact hs)) hd ⟨by have := hE.2.1; omega, by have := hE.2.2; omega⟩
  refine zw_go (rest := rest.map (zw_val ad)) hrun hS (fun r sh' mem' ad' H1 locs1 hok hq hx hwd hS1 => ?_)
  have e1 : r.toList.map (zw_val ad') ++ rest.map (zw_val ad) = (r.toList ++ rest).map (zw_val ad') := by rw [List.map_append, zw_map_ext hx.2 hTr]
  rw [e1]
  exact hq p e R s m args below meth c Z G ad0 N0 H1 locs1 ad' lsM _ _ C ⟨hwd, hS1, hL.ext hx.1 hx.2, zw_oks_app.mpr ⟨hok, zw_oks_mono hx.1 hTr⟩, ⟨Nat.le_trans hE.1.1 hx.1, fun i hi => (hx.2 i (by rcases hi with h | h; exact Or.inl (Nat.lt_of_lt_of_le h hE.1.1); exact Or.inr h)).trans (hE.1.2 i hi)⟩, by have := hE.2.1; omega, by have := hE.2.2; omega⟩
set_option maxHeartbeats 4000000 in
theorem wp_callS {l : Launch} {M : zMM} {sh : zSh} {pc : Nat} {ls : List (Option zV)} {mem : zMem} {bc bs : Nat} {Q : zQ} {M' : zMM} {n idx : Nat} {As rest st0 : List zV}  (hd : decode (zc M) pc = .ok (.invokestatic idx, 3)) (hl : Cond.methodLink (zy M).cls idx (zy M') ∈ lw_g) (hm : zw_mS M' n) (hn : As.length = n) (hF : zF M' + 1 ≤ zF M ∧ 8 + (zn M' + 11) + zL M' ≤ zL M) (hb : zmc M' ≤ bc ∧ zms M' ≤ bs) (hs : (rest.map zw_cat).sum ≤ 8) (hst : As.reverse ++ rest = st0) (k : zw_Ok l M' As sh mem (fun r sh' mem' => zw_Wp l M sh' (pc + 3) ls (r.toList ++ rest) mem' (bc - zmc M') (bs - zms M') Q)) : zw_Wp l M sh pc ls st0 mem bc bs Q := by
  subst hst
  intro p e R s m args below meth c Z G ad0 N0 H locs ad lsM cells slots C X
  obtain ⟨hW, hS, hL, hT, hE⟩ := X
  have hts := C.2.2.2.2.1
  have hRo := C.2.2.2.2.2.2.2.1
  obtain ⟨hT1, hTr⟩ : zw_oks sh.1 As.reverse ∧ zw_oks sh.1 rest := zw_oks_app.mp hT
  have hM := k G ad (zw_oks_rev.mp hT1)
  have hrun : va_Run p l e R s m args below meth c H locs cells slots (zmc M') (zms M') (F0 m pc lsM ((As.reverse ++ rest).map (zw_val ad))) (rest.map (zw_val ad)) (zw_Qc G ad sh.1 _ (As.map (zw_val ad)).toArray) (fun q => G.2.2 ≤ q) :=
    va_runS (n := n) (As := As.map (zw_val ad)) ⟨C.1, C.2.1, C.2.2.1, C.2.2.2.1, C.2.2.2.2.1⟩ hM ⟨callB_of n hts (zw_good hm.1.1) rfl rfl rfl (hts _ hm.1.2.1) (hts _ hl) hm.1.2.2 ⟨by have := hF.1; have := hRo.1; show zF M' + 1 ≤ _; omega, by have := hF.2; have := hRo.2; show 8 + (zn M' + 11) + zL M' ≤ _; omega⟩, hts _ hm.2⟩ ⟨zw_blind, fun U hU hWa => ⟨rfl, by rw [hU]; exact hW.moved hWa.alike, by rw [hU]; exact Nat.le_trans C.2.2.2.2.2.2.1 hS.1, zw_N.warm hWa C.2.2.2.2.2.1.2⟩⟩
      rfl (by rw [List.length_map]; exact hn) hL.1 (by simp [List.map_append, List.map_reverse]) (lv_room (by rw [zw_catsum]; exact hs)) hd ⟨by have := hE.2.1; omega, by have := hE.2.2; omega⟩
  refine zw_go (rest := rest.map (zw_val ad)) hrun hS (fun r sh' mem' ad' H1 locs1 hok hq hx hwd hS1 => ?_)
  have e1 : r.toList.map (zw_val ad') ++ rest.map (zw_val ad) = (r.toList ++ rest).map (zw_val ad') := by rw [List.map_append, zw_map_ext hx.2 hTr]
  rw [e1]
  exact hq p e R s m args below meth c Z G ad0 N0 H1 locs1 ad' lsM _ _ C ⟨hwd, hS1, hL.ext hx.1 hx.2, zw_oks_app.mpr ⟨hok, zw_oks_mono hx.1 hTr⟩, ⟨Nat.le_trans hE.1.1 hx.1, fun i hi => (hx.2 i (by rcases hi with h | h; exact Or.inl (Nat.lt_of_lt_of_le h hE.1.1); exact Or.inr h)).trans (hE.1.2 i hi)⟩, by have := hE.2.1; omega, by have := hE.2.2; omega⟩
