/-! ===== fields, arrays ===== -/
theorem zw_Ro.step {G : zG} {ad : Nat → Nat} {sh : zSh} {mem : zMem} {s : State} {H H1 : Heap} {locs locs1 : List Loc} (hlo : G.2.2 ≤ s.heap.size) (hS : va_S (fun q => G.2.2 ≤ q) s.heap H locs) (hS1 : va_S (fun q => G.2.2 ≤ q) s.heap H1 locs1) (h : zw_Ro G ad sh mem s H) : zw_Ro G ad sh mem s H1 :=
  h.kept (fun a _ hn => by rw [hS1.2.1 a (by omega) hn, hS.2.1 a (by omega) hn])
theorem zw_Ro.upd {G : zG} {ad : Nat → Nat} {sh : zSh} {mem mem' : zMem} {s : State} {H : Heap} (hm : ∀ j, 1000 ≤ j → mem' j = mem j) (h : zw_Ro G ad sh mem s H) : zw_Ro G ad sh mem' s H := by
  refine ⟨h.1, fun j hj => ?_⟩
  rw [hm j (by omega)]
  exact h.2 j hj
theorem zw_ent_ne {G : zG} {ad : Nat → Nat} {sh : zSh} {mem mem' : zMem} {j : Nat} (h : mem' j = mem j) : zw_ent G ad sh mem' j = zw_ent G ad sh mem j := by
  unfold zw_ent zw_fld
  rw [h]
theorem zu_row {mem : zMem} {i j : Nat} {k v : Int} (h : j ≠ i) : zu mem i k v j = mem j := by
  funext b
  exact zu_n (Or.inl h)
theorem zw_rg.upd {sh : zSh} {mem : zMem} {i : Nat} {k v : Int} (h : zw_rg sh mem) (hv : zw_r32 v) : zw_rg sh (zu mem i k v) := by
  refine ⟨fun a b => ?_, h.2⟩
  unfold zu
  split
  · exact hv
  · exact h.1 a b
/-- one slot of one cell is written -/
theorem zw_Wd.put {G : zG} {ad : Nat → Nat} {sh : zSh} {mem : zMem} {s : State} {H H1 : Heap} {locs locs1 : List Loc} {i : Nat} {k v : Int} {e1 : va_E} (hW : zw_Wd G ad sh mem s H) (hlo : G.2.2 ≤ s.heap.size) (hS : va_S (fun q => G.2.2 ≤ q) s.heap H locs) (hi : i < sh.1) (hv : zw_r32 v) (he : e1 = zw_ent G ad sh (zu mem i k v) i)
    (hP1 : va_P G.1 vwCl ((zw_ws G ad sh mem).set i (ad i, e1)) H1) (hD1 : va_D (fun q => G.2.2 ≤ q) ((zw_ws G ad sh mem).set i (ad i, e1))) (hS1 : va_S (fun q => G.2.2 ≤ q) s.heap H1 locs1) : zw_Wd G ad sh (zu mem i k v) s H1 := by
  have e : (zw_ws G ad sh mem).set i (ad i, e1) = zw_ws G ad sh (zu mem i k v) := by
    rw [he]
    exact zw_ws_set hi rfl (fun j _ hj => zw_ent_ne (zu_row hj))
  rw [e] at hP1 hD1
  exact ⟨hW.1, hP1, hD1, zw_Ro.upd (fun j hj => zu_row (by have := hW.2.2.2.2.2.2; omega)) (zw_Ro.step hlo hS hS1 hW.2.2.2.1), hW.2.2.2.2.upd hv⟩
def zw_cl (ci : Nat) (C : String) (T : u_T) (N : Nat) (ty : Nat → FieldType) : Prop := vwCl[ci]? = some (C, T, N) ∧ (∀ w ∈ u_ws C T N, w ∈ lw_g) ∧ (∀ k, k < N → parseFieldDescriptor (T k).2.2.1 = some (ty k)) ∧ (∀ a, a < N → ∀ b, b < N → a ≠ b → (T a).2.1 ≠ (T b).2.1)
def zw_gf (own : String) (idx ci k : Nat) : Prop := ∃ (C : String) (T : u_T) (N : Nat) (ty : Nat → FieldType), zw_cl ci C T N ty ∧ k < N ∧ Cond.fieldLink own idx (T k).1 (T k).2.1 (T k).2.2.1 ∈ lw_g
def zw_pf (own : String) (idx ci k : Nat) (fty : FieldType) (fin : Bool) : Prop := ∃ (C : String) (T : u_T) (N : Nat) (ty : Nat → FieldType), zw_cl ci C T N ty ∧ k < N ∧ Cond.fieldLink own idx (T k).1 (T k).2.1 (T k).2.2.1 ∈ lw_g ∧ (T k).2.2.2 = fin ∧ ty k = fty ∧ (T k).1 = own
theorem zw_at_ob {G : zG} {ad : Nat → Nat} {sh : zSh} {mem : zMem} {i ci n : Nat} (hk : sh.2.1 i = (ci + 3, n)) (hi : i < sh.1) : (zw_ws G ad sh mem)[i]? = some (ad i, .inr (ci, (List.range n).map (fun k => zw_fld ad sh mem ci i k))) := by
  rw [zw_ws_at hi]
  unfold zw_ent
  rw [hk]
theorem zw_at_ia {G : zG} {ad : Nat → Nat} {sh : zSh} {mem : zMem} {i n : Nat} (hk : sh.2.1 i = (0, n)) (hi : i < sh.1) : (zw_ws G ad sh mem)[i]? = some (ad i, .inl (G.2.1.1, n, .inl (fun k => Int32.ofInt (mem i k)))) := by
  rw [zw_ws_at hi]
  unfold zw_ent
  rw [hk]
theorem zw_at_za {G : zG} {ad : Nat → Nat} {sh : zSh} {mem : zMem} {i n : Nat} (hk : sh.2.1 i = (1, n)) (hi : i < sh.1) : (zw_ws G ad sh mem)[i]? = some (ad i, .inl (G.2.1.2.1, n, .inl (fun k => Int32.ofInt (mem i k)))) := by
  rw [zw_ws_at hi]
  unfold zw_ent
  rw [hk]
theorem zw_at_pa {G : zG} {ad : Nat → Nat} {sh : zSh} {mem : zMem} {i n : Nat} (hk : sh.2.1 i = (2, n)) (hi : i < sh.1) : (zw_ws G ad sh mem)[i]? = some (ad i, .inl (G.2.1.2.2, n, .inr (.inr (.inr (.inr (fun k => (sh.2.2 i k).map ad)))))) := by
  rw [zw_ws_at hi]
  unfold zw_ent
  rw [hk]
set_option maxHeartbeats 4000000 in
theorem wp_getI {l : Launch} {M : zMM} {sh : zSh} {pc : Nat} {ls : List (Option zV)} {st : List zV} {mem : zMem} {bc bs : Nat} {Q : zQ} {idx ci kf n i : Nat} (hd : decode (zc M) pc = .ok (.getfield idx, 3)) (hf : zw_gf (zy M).cls idx ci kf) (hr : zw_isr ci kf = false) (hk : sh.2.1 i = (ci + 3, n)) (hn : kf < n) (hi : i < sh.1) (k : zw_Wp l M sh (pc + 3) ls (zI (mem i kf) :: st) mem bc bs Q) : zw_Wp l M sh pc ls (zR i :: st) mem bc bs Q := by
  intro p e R s m args below meth c Z G ad0 N0 H locs ad lsM cells slots C X
  obtain ⟨hW, hS, hL, hT, hE⟩ := X
  obtain ⟨C0, T, N, ty, ⟨hc, hin, hty, hnm⟩, hkN, hlk⟩ := hf
  refine va_get C.1 C.2.1 C.2.2.2.2.1 hin C.2.2.2.1 hW.1 hW.2.1 i (zw_at_ob hk hi) hc kf hkN (C.2.2.2.2.1 _ hlk) (fun _ h => h) (v := .int (Int32.ofInt (mem i kf))) ?_ hd ?_
  · simp [hn, zw_fld, hr]
  exact k p e R s m args below meth c Z G ad0 N0 H locs ad lsM cells slots C ⟨hW, hS, hL, ⟨hW.2.2.2.2.1 i kf, hT.2⟩, hE⟩
set_option maxHeartbeats 4000000 in
theorem wp_getR {l : Launch} {M : zMM} {sh : zSh} {pc : Nat} {ls : List (Option zV)} {st : List zV} {mem : zMem} {bc bs : Nat} {Q : zQ} {idx ci kf n i j : Nat} (hd : decode (zc M) pc = .ok (.getfield idx, 3)) (hf : zw_gf (zy M).cls idx ci kf) (hr : zw_isr ci kf = true) (hk : sh.2.1 i = (ci + 3, n)) (hn : kf < n) (hi : i < sh.1) (hj : sh.2.2 i kf = some j) (k : zw_Wp l M sh (pc + 3) ls (zR j :: st) mem bc bs Q) : zw_Wp l M sh pc ls (zR i :: st) mem bc bs Q := by
  intro p e R s m args below meth c Z G ad0 N0 H locs ad lsM cells slots C X
  obtain ⟨hW, hS, hL, hT, hE⟩ := X
  obtain ⟨C0, T, N, ty, ⟨hc, hin, hty, hnm⟩, hkN, hlk⟩ := hf
  refine va_get C.1 C.2.1 C.2.2.2.2.1 hin C.2.2.2.1 hW.1 hW.2.1 i (zw_at_ob hk hi) hc kf hkN (C.2.2.2.2.1 _ hlk) (fun _ h => h) (v := .ref (ad j)) ?_ hd ?_
  · simp [hn, zw_fld, hr, hj, va_rf]
  exact k p e R s m args below meth c Z G ad0 N0 H locs ad lsM cells slots C ⟨hW, hS, hL, ⟨Or.inl (hW.2.2.2.2.2.1 i kf j hj), hT.2⟩, hE⟩
set_option maxHeartbeats 4000000 in
theorem wp_putI {l : Launch} {M : zMM} {sh : zSh} {pc : Nat} {ls : List (Option zV)} {st : List zV} {mem : zMem} {bc bs : Nat} {Q : zQ} {idx ci kf n i : Nat} {v : Int} (hd : decode (zc M) pc = .ok (.putfield idx, 3)) (hf : zw_pf (zy M).cls idx ci kf .int false) (hr : zw_isr ci kf = false) (hk : sh.2.1 i = (ci + 3, n)) (hn : kf < n) (hi : i < sh.1) (k : zw_Wp l M sh (pc + 3) ls st (zu mem i kf v) bc bs Q) : zw_Wp l M sh pc ls (zI v :: zR i :: st) mem bc bs Q := by
  intro p e R s m args below meth c Z G ad0 N0 H locs ad lsM cells slots C X
  obtain ⟨hW, hS, hL, hT, hE⟩ := X
  obtain ⟨C0, T, N, ty, ⟨hc, hin, hty, hnm⟩, hkN, hlk, hfin, hty1, -⟩ := hf
  have hv : zw_r32 v := hT.1
  refine va_put C.1 C.2.1 C.2.2.2.2.1 hin ty hty hnm C.2.2.2.1 hW.1 hW.2.1 hW.2.2.1 hS i (zw_at_ob hk hi) hc kf hkN (C.2.2.2.2.1 _ hlk) (fun _ h => h) hfin (ty := .int) (v := .int (Int32.ofInt v)) (by rw [hty kf hkN, hty1]) rfl rfl (by simp [hn]) hd (fun H1 locs1 hP1 hD1 hS1 => ?_)
  have he : (.inr (ci, ((List.range n).map (fun k => zw_fld ad sh mem ci i k)).set kf (.int (Int32.ofInt v))) : va_E) = zw_ent G ad sh (zu mem i kf v) i := by
    unfold zw_ent
    rw [hk]
    show (Sum.inr (ci, _) : va_E) = Sum.inr (ci, _)
    congr 2
    apply List.ext_getElem?
    intro j
    rw [List.getElem?_set]
    by_cases hj : j < n
    · by_cases hkj : kf = j
      · subst hkj
        simp [hj, zw_fld, hr, zu_s]
      · rw [if_neg hkj]
        have h1 : zu mem i kf v i j = mem i j := zu_n (Or.inr (by omega))
        simp [hj, zw_fld, h1]
    · have hkj : kf ≠ j := by omega
      rw [if_neg hkj]
      simp [hj]
  have h9 := hW.put C.2.2.2.2.2.2.1 hS hi hv he hP1 hD1 hS1
  exact k p e R s m args below meth c Z G ad0 N0 H1 locs1 ad lsM cells slots C ⟨h9, hS1, hL, hT.2.2, hE⟩
set_option maxHeartbeats 4000000 in
theorem wp_putZ {l : Launch} {M : zMM} {sh : zSh} {pc : Nat} {ls : List (Option zV)} {st : List zV} {mem : zMem} {bc bs : Nat} {Q : zQ} {idx ci kf n i : Nat} {v : Int} (hd : decode (zc M) pc = .ok (.putfield idx, 3)) (hf : zw_pf (zy M).cls idx ci kf .boolean false) (hr : zw_isr ci kf = false) (hk : sh.2.1 i = (ci + 3, n)) (hn : kf < n) (hi : i < sh.1) (hz : v = 0 ∨ v = 1) (k : zw_Wp l M sh (pc + 3) ls st (zu mem i kf v) bc bs Q) : zw_Wp l M sh pc ls (zI v :: zR i :: st) mem bc bs Q := by
  intro p e R s m args below meth c Z G ad0 N0 H locs ad lsM cells slots C X
  obtain ⟨hW, hS, hL, hT, hE⟩ := X
  obtain ⟨C0, T, N, ty, ⟨hc, hin, hty, hnm⟩, hkN, hlk, hfin, hty1, -⟩ := hf
  have hv : zw_r32 v := hT.1
  refine va_put C.1 C.2.1 C.2.2.2.2.1 hin ty hty hnm C.2.2.2.1 hW.1 hW.2.1 hW.2.2.1 hS i (zw_at_ob hk hi) hc kf hkN (C.2.2.2.2.1 _ hlk) (fun _ h => h) hfin (ty := .boolean) (v := .int (Int32.ofInt v)) (by rw [hty kf hkN, hty1]) (by rcases hz with rfl | rfl <;> decide +kernel) (by rcases hz with rfl | rfl <;> decide +kernel) (by simp [hn]) hd (fun H1 locs1 hP1 hD1 hS1 => ?_)
  have he : (.inr (ci, ((List.range n).map (fun k => zw_fld ad sh mem ci i k)).set kf (.int (Int32.ofInt v))) : va_E) = zw_ent G ad sh (zu mem i kf v) i := by
    unfold zw_ent
    rw [hk]
    show (Sum.inr (ci, _) : va_E) = Sum.inr (ci, _)
    congr 2
    apply List.ext_getElem?
    intro j
    rw [List.getElem?_set]
    by_cases hj : j < n
    · by_cases hkj : kf = j
      · subst hkj
        simp [hj, zw_fld, hr, zu_s]
      · rw [if_neg hkj]
        have h1 : zu mem i kf v i j = mem i j := zu_n (Or.inr (by omega))
        simp [hj, zw_fld, h1]
    · have hkj : kf ≠ j := by omega
      rw [if_neg hkj]
      simp [hj]
  have h9 := hW.put C.2.2.2.2.2.2.1 hS hi hv he hP1 hD1 hS1
  exact k p e R s m args below meth c Z G ad0 N0 H1 locs1 ad lsM cells slots C ⟨h9, hS1, hL, hT.2.2, hE⟩
set_option maxHeartbeats 4000000 in
theorem wp_iald {l : Launch} {M : zMM} {sh : zSh} {pc : Nat} {ls : List (Option zV)} {st : List zV} {mem : zMem} {bc bs : Nat} {Q : zQ} {n i : Nat} {j : Int} (hd : decode (zc M) pc = .ok (.iaload, 1)) (hk : sh.2.1 i = (0, n)) (hi : i < sh.1) (h0 : 0 ≤ j) (h1 : j < n) (k : zw_Wp l M sh (pc + 1) ls (zI (mem i j) :: st) mem bc bs Q) : zw_Wp l M sh pc ls (zI j :: zR i :: st) mem bc bs Q := by
  intro p e R s m args below meth c Z G ad0 N0 H locs ad lsM cells slots C X
  obtain ⟨hW, hS, hL, hT, hE⟩ := X
  obtain ⟨q1, q2⟩ := zo_clamp h0 h1 hT.1
  refine va_iald C.1 C.2.1 hW.1 hW.2.1 i 0 (zw_at_ia hk hi) rfl q1 hd ?_
  rw [q2, Int.toNat_of_nonneg h0]
  exact k p e R s m args below meth c Z G ad0 N0 H locs ad lsM cells slots C ⟨hW, hS, hL, ⟨hW.2.2.2.2.1 i j, hT.2.2⟩, hE⟩
set_option maxHeartbeats 4000000 in
theorem wp_bald {l : Launch} {M : zMM} {sh : zSh} {pc : Nat} {ls : List (Option zV)} {st : List zV} {mem : zMem} {bc bs : Nat} {Q : zQ} {n i : Nat} {j : Int} (hd : decode (zc M) pc = .ok (.baload, 1)) (hk : sh.2.1 i = (1, n)) (hi : i < sh.1) (h0 : 0 ≤ j) (h1 : j < n) (k : zw_Wp l M sh (pc + 1) ls (zI (mem i j) :: st) mem bc bs Q) : zw_Wp l M sh pc ls (zI j :: zR i :: st) mem bc bs Q := by
  intro p e R s m args below meth c Z G ad0 N0 H locs ad lsM cells slots C X
  obtain ⟨hW, hS, hL, hT, hE⟩ := X
  obtain ⟨q1, q2⟩ := zo_clamp h0 h1 hT.1
  refine va_zald C.1 C.2.1 hW.1 hW.2.1 i 1 (zw_at_za hk hi) rfl q1 hd ?_
  rw [q2, Int.toNat_of_nonneg h0]
  exact k p e R s m args below meth c Z G ad0 N0 H locs ad lsM cells slots C ⟨hW, hS, hL, ⟨hW.2.2.2.2.1 i j, hT.2.2⟩, hE⟩
set_option maxHeartbeats 4000000 in
theorem wp_aald {l : Launch} {M : zMM} {sh : zSh} {pc : Nat} {ls : List (Option zV)} {st : List zV} {mem : zMem} {bc bs : Nat} {Q : zQ} {n i x : Nat} {j : Int} (hd : decode (zc M) pc = .ok (.aaload, 1)) (hk : sh.2.1 i = (2, n)) (hi : i < sh.1) (h0 : 0 ≤ j) (h1 : j < n) (hx : sh.2.2 i j.toNat = some x) (k : zw_Wp l M sh (pc + 1) ls (zR x :: st) mem bc bs Q) : zw_Wp l M sh pc ls (zI j :: zR i :: st) mem bc bs Q := by
  intro p e R s m args below meth c Z G ad0 N0 H locs ad lsM cells slots C X
  obtain ⟨hW, hS, hL, hT, hE⟩ := X
  obtain ⟨q1, q2⟩ := zo_clamp h0 h1 hT.1
  refine va_aldq C.1 C.2.1 hW.1 hW.2.1 i 2 (zw_at_pa hk hi) rfl q1 hd ?_
  rw [q2, hx]
  exact k p e R s m args below meth c Z G ad0 N0 H locs ad lsM cells slots C ⟨hW, hS, hL, ⟨Or.inl (hW.2.2.2.2.2.1 i _ x hx), hT.2.2⟩, hE⟩
set_option maxHeartbeats 4000000 in
theorem wp_iast {l : Launch} {M : zMM} {sh : zSh} {pc : Nat} {ls : List (Option zV)} {st : List zV} {mem : zMem} {bc bs : Nat} {Q : zQ} {n i : Nat} {j v : Int} (hd : decode (zc M) pc = .ok (.iastore, 1)) (hk : sh.2.1 i = (0, n)) (hi : i < sh.1) (h0 : 0 ≤ j) (h1 : j < n) (k : zw_Wp l M sh (pc + 1) ls st (zu mem i j v) bc bs Q) : zw_Wp l M sh pc ls (zI v :: zI j :: zR i :: st) mem bc bs Q := by
  intro p e R s m args below meth c Z G ad0 N0 H locs ad lsM cells slots C X
  obtain ⟨hW, hS, hL, hT, hE⟩ := X
  obtain ⟨q1, q2⟩ := zo_clamp h0 h1 hT.2.1
  have hv : zw_r32 v := hT.1
  refine va_iast C.1 C.2.1 hW.1 hW.2.1 hW.2.2.1 hS i 0 (zw_at_ia hk hi) rfl q1 hd (fun H1 locs1 hP1 hD1 hS1 => ?_)
  rw [q2] at hP1 hD1
  have he : (.inl (G.2.1.1, n, .inl (upd (fun k => Int32.ofInt (mem i k)) j.toNat (Int32.ofInt v))) : va_E) = zw_ent G ad sh (zu mem i j v) i := by
    unfold zw_ent
    rw [hk]
    show (Sum.inl (G.2.1.1, n, Sum.inl _) : va_E) = Sum.inl (G.2.1.1, n, Sum.inl _)
    congr 4
    funext x
    unfold upd
    by_cases hx : x = j.toNat
    · subst hx
      rw [if_pos rfl, Int.toNat_of_nonneg h0, zu_s]
    · rw [if_neg hx, zu_n (Or.inr (by omega))]
  have h9 := hW.put C.2.2.2.2.2.2.1 hS hi hv he hP1 hD1 hS1
  exact k p e R s m args below meth c Z G ad0 N0 H1 locs1 ad lsM cells slots C ⟨h9, hS1, hL, hT.2.2.2, hE⟩
set_option maxHeartbeats 4000000 in
theorem wp_bast {l : Launch} {M : zMM} {sh : zSh} {pc : Nat} {ls : List (Option zV)} {st : List zV} {mem : zMem} {bc bs : Nat} {Q : zQ} {n i : Nat} {j v : Int} (hd : decode (zc M) pc = .ok (.bastore, 1)) (hk : sh.2.1 i = (1, n)) (hi : i < sh.1) (h0 : 0 ≤ j) (h1 : j < n) (hz : v = 0 ∨ v = 1) (k : zw_Wp l M sh (pc + 1) ls st (zu mem i j v) bc bs Q) : zw_Wp l M sh pc ls (zI v :: zI j :: zR i :: st) mem bc bs Q := by
  intro p e R s m args below meth c Z G ad0 N0 H locs ad lsM cells slots C X
  obtain ⟨hW, hS, hL, hT, hE⟩ := X
  obtain ⟨q1, q2⟩ := zo_clamp h0 h1 hT.2.1
  have hv : zw_r32 v := hT.1
  refine va_zast C.1 C.2.1 hW.1 hW.2.1 hW.2.2.1 hS i 1 (zw_at_za hk hi) rfl q1 hd (fun H1 locs1 hP1 hD1 hS1 => ?_)
  rw [q2] at hP1 hD1
  have hnar : vp_nar .boolean (Int32.ofInt v) = Int32.ofInt v := by rcases hz with rfl | rfl <;> decide +kernel
  rw [hnar] at hP1 hD1
  have he : (.inl (G.2.1.2.1, n, .inl (upd (fun k => Int32.ofInt (mem i k)) j.toNat (Int32.ofInt v))) : va_E) = zw_ent G ad sh (zu mem i j v) i := by
    unfold zw_ent
    rw [hk]
    show (Sum.inl (G.2.1.2.1, n, Sum.inl _) : va_E) = Sum.inl (G.2.1.2.1, n, Sum.inl _)
    congr 4
    funext x
    unfold upd
    by_cases hx : x = j.toNat
    · subst hx
      rw [if_pos rfl, Int.toNat_of_nonneg h0, zu_s]
    · rw [if_neg hx, zu_n (Or.inr (by omega))]
  have h9 := hW.put C.2.2.2.2.2.2.1 hS hi hv he hP1 hD1 hS1
  exact k p e R s m args below meth c Z G ad0 N0 H1 locs1 ad lsM cells slots C ⟨h9, hS1, hL, hT.2.2.2, hE⟩
set_option maxHeartbeats 4000000 in
theorem wp_alen {l : Launch} {M : zMM} {sh : zSh} {pc : Nat} {ls : List (Option zV)} {st : List zV} {mem : zMem} {bc bs : Nat} {Q : zQ} {n i : Nat} (hd : decode (zc M) pc = .ok (.arraylength, 1)) (hk : sh.2.1 i = (0, n)) (hi : i < sh.1) (hn : n < 2147483648) (k : zw_Wp l M sh (pc + 1) ls (zI n :: st) mem bc bs Q) : zw_Wp l M sh pc ls (zR i :: st) mem bc bs Q := by
  intro p e R s m args below meth c Z G ad0 N0 H locs ad lsM cells slots C X
  obtain ⟨hW, hS, hL, hT, hE⟩ := X
  refine va_alen C.1 C.2.1 hW.1 hW.2.1 i 0 (zw_at_ia hk hi) rfl (v := Int32.ofInt n) Int32.ofInt_eq_ofNat.symm hd ?_
  exact k p e R s m args below meth c Z G ad0 N0 H locs ad lsM cells slots C ⟨hW, hS, hL, ⟨(by show zw_r32 _; unfold zw_r32; omega), hT.2⟩, hE⟩
set_option maxHeartbeats 4000000 in
theorem wp_alenR {l : Launch} {M : zMM} {sh : zSh} {pc : Nat} {ls : List (Option zV)} {st : List zV} {mem : zMem} {bc bs : Nat} {Q : zQ} {n i : Nat} (hd : decode (zc M) pc = .ok (.arraylength, 1)) (hk : sh.2.1 i = (0, n)) (hi : i = 1000 ∨ i = 1001) (hn : n < 2147483648) (k : zw_Wp l M sh (pc + 1) ls (zI n :: st) mem bc bs Q) : zw_Wp l M sh pc ls (zR i :: st) mem bc bs Q := by
  intro p e R s m args below meth c Z G ad0 N0 H locs ad lsM cells slots C X
  obtain ⟨hW, hS, hL, hT, hE⟩ := X
  obtain ⟨cell, g1, g2, g3, g4, g5, g6, g7⟩ := hW.2.2.2.1.2 i hi
  rw [hk] at g4 g5 g6
  refine W.alen (n := Int32.ofInt n) C.1 C.2.1 g1 g2 (g5.trans Int32.ofInt_eq_ofNat.symm) rfl rfl hd ?_
  exact k p e R s m args below meth c Z G ad0 N0 H locs ad lsM cells slots C ⟨hW, hS, hL, ⟨(by show zw_r32 _; unfold zw_r32; omega), hT.2⟩, hE⟩
set_option maxHeartbeats 4000000 in
theorem wp_ialdR {l : Launch} {M : zMM} {sh : zSh} {pc : Nat} {ls : List (Option zV)} {st : List zV} {mem : zMem} {bc bs : Nat} {Q : zQ} {n i : Nat} {j : Int} (hd : decode (zc M) pc = .ok (.iaload, 1)) (hk : sh.2.1 i = (0, n)) (hi : i = 1000 ∨ i = 1001) (h0 : 0 ≤ j) (h1 : j < n) (k : zw_Wp l M sh (pc + 1) ls (zI (mem i j) :: st) mem bc bs Q) : zw_Wp l M sh pc ls (zI j :: zR i :: st) mem bc bs Q := by
  intro p e R s m args below meth c Z G ad0 N0 H locs ad lsM cells slots C X
  obtain ⟨hW, hS, hL, hT, hE⟩ := X
  obtain ⟨cell, g1, g2, g3, g4, g5, g6, g7⟩ := hW.2.2.2.1.2 i hi
  rw [hk] at g4 g5 g6
  obtain ⟨q1, q2⟩ := zo_clamp h0 (show j < (cell.slots.size : Int) by have : n ≤ cell.slots.size := g4; omega) hT.1
  have g8 := g6 j.toNat (show j.toNat < n by omega)
  dsimp only at g8
  rw [Int.toNat_of_nonneg h0] at g8
  refine W.iald (v := .int (Int32.ofInt (mem i j))) C.1 C.2.1 g1 g2 g3 q1 (by rw [q2]; exact g8) rfl rfl hd ?_
  exact k p e R s m args below meth c Z G ad0 N0 H locs ad lsM cells slots C ⟨hW, hS, hL, ⟨hW.2.2.2.2.1 i j, hT.2.2⟩, hE⟩
set_option maxHeartbeats 4000000 in
theorem wp_gets {l : Launch} {M : zMM} {sh : zSh} {pc : Nat} {ls : List (Option zV)} {st : List zV} {mem : zMem} {bc bs : Nat} {Q : zQ} {idx : Nat} (hd : decode (zc M) pc = .ok (.getstatic idx, 3)) (hf : Cond.fieldLink (zy M).cls idx "LettersEliminated$Numbers" "PRIMES" "[I" ∈ lw_g) (k : zw_Wp l M sh (pc + 3) ls (zR 1000 :: st) mem bc bs Q) : zw_Wp l M sh pc ls st mem bc bs Q := by
  intro p e R s m args below meth c Z G ad0 N0 H locs ad lsM cells slots C X
  obtain ⟨hW, hS, hL, hT, hE⟩ := X
  obtain ⟨cf, kf, fi, f, a, cell, h1, h2, h3, h4, h5, h6, h7, h8⟩ := hW.2.2.2.1.1
  refine W.gets C.1 C.2.1 C.2.2.2.1 (C.2.2.2.2.1 _ hf) h1 h2 h3 h4 h5 (fun e => by rw [e] at h6; cases h6) h7 rfl hd ?_
  exact k p e R s m args below meth c Z G ad0 N0 H locs ad lsM cells slots C ⟨hW, hS, hL, ⟨Or.inr (Nat.le_refl _), hT⟩, hE⟩
