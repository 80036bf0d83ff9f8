/-! ===== new cells ===== -/
def zw_ad (ad : Nat → Nat) (n q : Nat) : Nat → Nat := fun i => if i = n then q else ad i
theorem zw_ad_s {ad : Nat → Nat} {n q : Nat} : zw_ad ad n q n = q := if_pos rfl
theorem zw_ad_n {ad : Nat → Nat} {n q i : Nat} (h : i ≠ n) : zw_ad ad n q i = ad i := if_neg h
def zg (sh : zSh) : zSh := (sh.1 + 1, sh.2)
theorem zw_ent_ext {G : zG} {ad ad' : Nat → Nat} {sh : zSh} {mem : zMem} {j : Nat} (h : ∀ k x, sh.2.2 j k = some x → ad' x = ad x) : zw_ent G ad' (zg sh) mem j = zw_ent G ad sh mem j := by
  have e : ∀ k, (sh.2.2 j k).map ad' = (sh.2.2 j k).map ad := by
    intro k
    cases hx : sh.2.2 j k with
    | none => rfl
    | some x => simp [h k x hx]
  unfold zw_ent zw_fld zg
  simp only [e]
theorem zw_grow {G : zG} {ad : Nat → Nat} {sh : zSh} {mem : zMem} {s : State} {H H1 : Heap} {locs locs1 : List Loc} {q : Nat} {e1 : va_E} (hW : zw_Wd G ad sh mem s H) (hlo : G.2.2 ≤ s.heap.size) (hS : va_S (fun q => G.2.2 ≤ q) s.heap H locs) (hN : sh.1 < 1000) (he : e1 = zw_ent G ad sh mem sh.1)
    (hP1 : va_P G.1 vwCl (zw_ws G ad sh mem ++ [(q, e1)]) H1) (hD1 : va_D (fun q => G.2.2 ≤ q) (zw_ws G ad sh mem ++ [(q, e1)])) (hS1 : va_S (fun q => G.2.2 ≤ q) s.heap H1 locs1) : zw_Wd G (zw_ad ad sh.1 q) (zg sh) mem s H1 := by
  have ex : ∀ j, zw_ent G (zw_ad ad sh.1 q) (zg sh) mem j = zw_ent G ad sh mem j := fun j => zw_ent_ext (fun k x hx => zw_ad_n (by have := hW.2.2.2.2.2.1 j k x hx; omega))
  have e : zw_ws G ad sh mem ++ [(q, e1)] = zw_ws G (zw_ad ad sh.1 q) (zg sh) mem := by
    rw [he, ← ex sh.1]
    have := zw_ws_push (G := G) (ad := ad) (ad' := zw_ad ad sh.1 q) (sh := sh) (sh' := zg sh) (mem := mem) (mem' := mem) rfl (fun j hj => ⟨zw_ad_n (by omega), ex j⟩)
    rw [zw_ad_s] at this
    exact this
  rw [e] at hP1 hD1
  refine ⟨hW.1, hP1, hD1, ?_, hW.2.2.2.2.1, fun i k j h => Nat.lt_succ_of_lt (hW.2.2.2.2.2.1 i k j h), hN⟩
  have h9 := zw_Ro.step hlo hS hS1 hW.2.2.2.1
  have a1 : zw_ad ad sh.1 q 1000 = ad 1000 := zw_ad_n (by omega)
  refine ⟨by rw [a1]; exact h9.1, fun j hj => ?_⟩
  rw [zw_ad_n (show j ≠ sh.1 by omega)]
  exact h9.2 j hj
theorem zw_fresh {l : Launch} {M : zMM} {sh : zSh} {pc : Nat} {ls : List (Option zV)} {st : List zV} {mem : zMem} {bc bs : Nat} {Q : zQ} {p : Program} {e : Env} {R : Room} {s : State} {m : MethodId} {args : Array Value} {below : List Frame} {meth : Method} {c : Code} {Z : State → Prop} {G : zG} {ad0 : Nat → Nat} {N0 : Nat} {H H1 : Heap} {locs locs1 : List Loc} {ad : Nat → Nat} {lsM : Array Slot} {cells slots a b q : Nat} {e1 : va_E} (k : zw_Wp l M (zg sh) pc ls (zR sh.1 :: st) mem (bc - a) (bs - b) Q) (C : zw_Cx l M p e R s m args below meth c Z G ad0 N0 Q)
    (hW : zw_Wd G ad sh mem s H) (hS : va_S (fun q => G.2.2 ≤ q) s.heap H locs) (hL : zw_Ls M ad sh.1 ls lsM) (hT : zw_oks sh.1 st) (hE : (N0 ≤ sh.1 ∧ ∀ i, zw_ix N0 i → ad i = ad0 i) ∧ cells + bc ≤ R.cells ∧ slots + bs ≤ R.slots) (hb : a ≤ bc ∧ b ≤ bs) (hN : sh.1 < 1000) (he : e1 = zw_ent G ad sh mem sh.1)
    (hP1 : va_P G.1 vwCl (zw_ws G ad sh mem ++ [(q, e1)]) H1) (hD1 : va_D (fun q => G.2.2 ≤ q) (zw_ws G ad sh mem ++ [(q, e1)])) (hS1 : va_S (fun q => G.2.2 ≤ q) s.heap H1 locs1) : W p l e R s m args below meth c H1 locs1 (cells + a) (slots + b) Z (F0 m pc lsM (.ref q :: st.map (zw_val ad))) := by
  have hx : ∀ i, zw_ix sh.1 i → zw_ad ad sh.1 q i = ad i := fun i hi => zw_ad_n (by rcases hi with h | h <;> omega)
  have e9 : (.ref q :: st.map (zw_val ad) : List Value) = (zR sh.1 :: st).map (zw_val (zw_ad ad sh.1 q)) := by
    rw [List.map_cons, zw_map_ext hx hT]
    show _ = Value.ref (zw_ad ad sh.1 q sh.1) :: _
    rw [zw_ad_s]
  rw [e9]
  exact k p e R s m args below meth c Z G ad0 N0 H1 locs1 (zw_ad ad sh.1 q) lsM _ _ C ⟨zw_grow hW C.2.2.2.2.2.2.1 hS hN he hP1 hD1 hS1, hS1, hL.ext (Nat.le_succ _) hx, ⟨Or.inl (Nat.lt_succ_self _), zw_oks_mono (Nat.le_succ _) hT⟩, ⟨Nat.le_succ_of_le hE.1.1, fun i hi => (hx i (by rcases hi with h | h; exact Or.inl (Nat.lt_of_lt_of_le h hE.1.1); exact Or.inr h)).trans (hE.1.2 i hi)⟩, by have := hE.2.1; omega, by have := hE.2.2; omega⟩
theorem zo_len {n : Nat} (h : n ≤ 100000) : ¬ Int32.ofInt (n : Int) < 0 ∧ (Int32.ofInt (n : Int)).toNatClampNeg = n := by
  obtain ⟨h1, h2⟩ := zo_clamp (j := (n : Int)) (n := n + 1) (by omega) (by omega) (by constructor <;> omega)
  exact ⟨fun h => h1 (Or.inl h), by rw [h2]; rfl⟩
set_option maxHeartbeats 4000000 in
theorem wp_newaI {l : Launch} {M : zMM} {sh : zSh} {pc : Nat} {ls : List (Option zV)} {st : List zV} {mem : zMem} {bc bs : Nat} {Q : zQ} {n : Nat} {z : Int} (hz : z = (n : Int)) (hd : decode (zc M) pc = .ok (.newarray .int, 2)) (ha : Cond.arrayClass .int ∈ lw_g) (hk : sh.2.1 sh.1 = (0, n)) (hm : ∀ k : Nat, mem sh.1 k = 0) (hN : sh.1 < 1000) (hn : n ≤ 100000) (hb : 1 ≤ bc ∧ n ≤ bs) (k : zw_Wp l M (zg sh) (pc + 2) ls (zR sh.1 :: st) mem (bc - 1) (bs - n) Q) : zw_Wp l M sh pc ls (zI z :: st) mem bc bs Q := by
  subst hz
  intro p e R s m args below meth c Z G ad0 N0 H locs ad lsM cells slots C X
  obtain ⟨hW, hS, hL, hT, hE⟩ := X
  obtain ⟨q1, q2⟩ := zo_len hn
  refine va_newa (atype := .int) C.1 C.2.1 (C.2.2.2.2.1 _ ha) rfl hW.1 hW.2.1 hW.2.2.1 hS (fun q hq => Nat.le_trans C.2.2.2.2.2.2.1 hq) (a0 := (n, .inl (fun k => Int32.ofInt (mem sh.1 k)))) (N' := n) (fun cA => ?_) q1 q2 (Nat.le_trans (Nat.mul_le_mul hn (show componentBytes .int ≤ 8 by decide)) (by decide)) (by have := hE.2.1; omega) (by have := hE.2.2; omega) hd (fun q cA H1 hK1 hP1 hD1 hS1 => ?_)
  · rw [vp_cell_i]
    congr 1
    funext j
    rw [hm j]
    rfl
  · have r1 : s.vm.findClass ("[" ++ (FieldType.int).toString) = some cA := (hK1.2 3 (cA, .int) rfl).2
    have r2 : s.vm.findClass ("[" ++ (FieldType.int).toString) = some (G.2.1.1) := (hW.1.2 0 (G.2.1.1, .int) rfl).2
    have ec : cA = G.2.1.1 := Option.some.inj (r1.symm.trans r2)
    subst ec
    refine zw_fresh k C hW hS hL hT.2 hE hb hN ?_ hP1 hD1 hS1
    unfold zw_ent
    rw [hk]
set_option maxHeartbeats 4000000 in
theorem wp_newaZ {l : Launch} {M : zMM} {sh : zSh} {pc : Nat} {ls : List (Option zV)} {st : List zV} {mem : zMem} {bc bs : Nat} {Q : zQ} {n : Nat} {z : Int} (hz : z = (n : Int)) (hd : decode (zc M) pc = .ok (.newarray .boolean, 2)) (ha : Cond.arrayClass .boolean ∈ lw_g) (hk : sh.2.1 sh.1 = (1, n)) (hm : ∀ k : Nat, mem sh.1 k = 0) (hN : sh.1 < 1000) (hn : n ≤ 100000) (hb : 1 ≤ bc ∧ n ≤ bs) (k : zw_Wp l M (zg sh) (pc + 2) ls (zR sh.1 :: st) mem (bc - 1) (bs - n) Q) : zw_Wp l M sh pc ls (zI z :: st) mem bc bs Q := by
  subst hz
  intro p e R s m args below meth c Z G ad0 N0 H locs ad lsM cells slots C X
  obtain ⟨hW, hS, hL, hT, hE⟩ := X
  obtain ⟨q1, q2⟩ := zo_len hn
  refine va_newa (atype := .boolean) C.1 C.2.1 (C.2.2.2.2.1 _ ha) rfl hW.1 hW.2.1 hW.2.2.1 hS (fun q hq => Nat.le_trans C.2.2.2.2.2.2.1 hq) (a0 := (n, .inl (fun k => Int32.ofInt (mem sh.1 k)))) (N' := n) (fun cA => ?_) q1 q2 (Nat.le_trans (Nat.mul_le_mul hn (show componentBytes .boolean ≤ 8 by decide)) (by decide)) (by have := hE.2.1; omega) (by have := hE.2.2; omega) hd (fun q cA H1 hK1 hP1 hD1 hS1 => ?_)
  · rw [vp_cell_i]
    congr 1
    funext j
    rw [hm j]
    rfl
  · have r1 : s.vm.findClass ("[" ++ (FieldType.boolean).toString) = some cA := (hK1.2 3 (cA, .boolean) rfl).2
    have r2 : s.vm.findClass ("[" ++ (FieldType.boolean).toString) = some (G.2.1.2.1) := (hW.1.2 1 (G.2.1.2.1, .boolean) rfl).2
    have ec : cA = G.2.1.2.1 := Option.some.inj (r1.symm.trans r2)
    subst ec
    refine zw_fresh k C hW hS hL hT.2 hE hb hN ?_ hP1 hD1 hS1
    unfold zw_ent
    rw [hk]
set_option maxHeartbeats 4000000 in
theorem wp_newq {l : Launch} {M : zMM} {sh : zSh} {pc : Nat} {ls : List (Option zV)} {st : List zV} {mem : zMem} {bc bs : Nat} {Q : zQ} {n idx : Nat} {z : Int} (hz : z = (n : Int)) (hd : decode (zc M) pc = .ok (.anewarray idx, 3)) (hc : Cond.classLink (zy M).cls idx "LettersEliminated$Poly" ∈ lw_g) (hk : sh.2.1 sh.1 = (2, n)) (hr : ∀ k : Nat, sh.2.2 sh.1 k = none) (hN : sh.1 < 1000) (hn : n ≤ 100000) (hb : 1 ≤ bc ∧ n ≤ bs) (k : zw_Wp l M (zg sh) (pc + 3) ls (zR sh.1 :: st) mem (bc - 1) (bs - n) Q) : zw_Wp l M sh pc ls (zI z :: st) mem bc bs Q := by
  subst hz
  intro p e R s m args below meth c Z G ad0 N0 H locs ad lsM cells slots C X
  obtain ⟨hW, hS, hL, hT, hE⟩ := X
  obtain ⟨q1, q2⟩ := zo_len hn
  refine va_newq C.1 C.2.1 C.2.2.2.1 (C.2.2.2.2.1 _ hc) C.2.2.2.2.2.1.2.2 hW.1 hW.2.1 hW.2.2.1 hS (fun q hq => Nat.le_trans C.2.2.2.2.2.2.1 hq) (N' := n) q1 q2 (by omega) (by have := hE.2.1; omega) (by have := hE.2.2; omega) hd (fun q cA H1 hK1 hP1 hD1 hS1 => ?_)
  obtain ⟨_, _, -, -, -, r1⟩ := (hK1.2 3 (cA, .object "LettersEliminated$Poly") rfl).2
  obtain ⟨_, _, -, -, -, r2⟩ := (hW.1.2 2 (G.2.1.2.2, .object "LettersEliminated$Poly") rfl).2
  have ec : cA = G.2.1.2.2 := Option.some.inj (r1.symm.trans r2)
  subst ec
  refine zw_fresh k C hW hS hL hT.2 hE hb hN ?_ hP1 hD1 hS1
  unfold zw_ent
  rw [hk]
  simp only [hr]
  rfl
def zw_nw (own : String) (idx ci n : Nat) : Prop := ∃ (C : String) (T : u_T) (ty : Nat → FieldType), zw_cl ci C T n ty ∧ Cond.classLink own idx C ∈ lw_g ∧ Cond.instantiable C n ∈ lw_g ∧ Cond.initialized C ∈ lw_g ∧ ∀ j, j < n → defaultValue (ty j) = if zw_isr ci j = true then Value.null else Value.int 0
set_option maxHeartbeats 4000000 in
theorem wp_new {l : Launch} {M : zMM} {sh : zSh} {pc : Nat} {ls : List (Option zV)} {st : List zV} {mem : zMem} {bc bs : Nat} {Q : zQ} {n idx ci : Nat} (hd : decode (zc M) pc = .ok (.new idx, 3)) (hw : zw_nw (zy M).cls idx ci n) (hk : sh.2.1 sh.1 = (ci + 3, n)) (hm : ∀ k : Nat, mem sh.1 k = 0) (hr : ∀ k : Nat, sh.2.2 sh.1 k = none) (hN : sh.1 < 1000) (hb : 1 ≤ bc ∧ n ≤ bs) (k : zw_Wp l M (zg sh) (pc + 3) ls (zR sh.1 :: st) mem (bc - 1) (bs - n) Q) : zw_Wp l M sh pc ls st mem bc bs Q := by
  intro p e R s m args below meth c Z G ad0 N0 H locs ad lsM cells slots C X
  obtain ⟨hW, hS, hL, hT, hE⟩ := X
  obtain ⟨C0, T0, ty, ⟨hc, hin, hty, hnm⟩, h1, h2, h3, h4⟩ := hw
  refine va_new C.1 C.2.1 C.2.2.2.2.1 hin ty hty C.2.2.2.1 (C.2.2.2.2.1 _ h1) (C.2.2.2.2.1 _ h2) (C.2.2.2.2.1 _ h3) hW.1 hW.2.1 hW.2.2.1 hS (fun q hq => Nat.le_trans C.2.2.2.2.2.2.1 hq) hc (fs := (List.range n).map (fun k => zw_fld ad sh mem ci sh.1 k)) (fun j hj => ?_) (by have := hE.2.1; omega) (by have := hE.2.2; omega) hd (fun q H1 hP1 hD1 hS1 => ?_)
  · rw [h4 j hj]
    unfold vp_V
    simp only [List.getD_eq_getElem?_getD, List.getElem?_map, List.getElem?_range hj, Option.map_some, Option.getD_some, zw_fld, hr, hm]
    rfl
  · refine zw_fresh k C hW hS hL hT hE hb hN ?_ hP1 hD1 hS1
    unfold zw_ent
    rw [hk]
def zur (f : Nat → Nat → Option Nat) (i k j : Nat) : Nat → Nat → Option Nat := fun a b => if a = i ∧ b = k then some j else f a b
def zq (sh : zSh) (i k j : Nat) : zSh := (sh.1, sh.2.1, zur sh.2.2 i k j)
theorem zw_Wd.putR {G : zG} {ad : Nat → Nat} {sh : zSh} {mem : zMem} {s : State} {H H1 : Heap} {locs locs1 : List Loc} {i k j : Nat} {e1 : va_E} (hW : zw_Wd G ad sh mem s H) (hlo : G.2.2 ≤ s.heap.size) (hS : va_S (fun q => G.2.2 ≤ q) s.heap H locs) (hi : i < sh.1) (hj : j < sh.1) (he : e1 = zw_ent G ad (zq sh i k j) mem i)
    (hP1 : va_P G.1 vwCl ((zw_ws G ad sh mem).set i (ad i, e1)) H1) (hD1 : va_D (fun q => G.2.2 ≤ q) ((zw_ws G ad sh mem).set i (ad i, e1))) (hS1 : va_S (fun q => G.2.2 ≤ q) s.heap H1 locs1) : zw_Wd G ad (zq sh i k j) mem s H1 := by
  have e : (zw_ws G ad sh mem).set i (ad i, e1) = zw_ws G ad (zq sh i k j) mem := by
    rw [he]
    refine zw_ws_set hi rfl (fun x _ hx => ?_)
    have e2 : ∀ b, zur sh.2.2 i k j x b = sh.2.2 x b := fun b => if_neg (fun h => hx h.1)
    unfold zw_ent zw_fld zq
    simp only [e2]
  rw [e] at hP1 hD1
  refine ⟨hW.1, hP1, hD1, zw_Ro.step hlo hS hS1 hW.2.2.2.1, hW.2.2.2.2.1, fun a b x hx => ?_, hW.2.2.2.2.2.2⟩
  have hx : zur sh.2.2 i k j a b = some x := hx
  unfold zur at hx
  split at hx
  · cases hx; exact hj
  · exact hW.2.2.2.2.2.1 a b x hx
set_option maxHeartbeats 4000000 in
theorem wp_putR {l : Launch} {M : zMM} {sh : zSh} {pc : Nat} {ls : List (Option zV)} {st : List zV} {mem : zMem} {bc bs : Nat} {Q : zQ} {idx ci kf n i j : Nat} {fty : FieldType} {fin : Bool} (hd : decode (zc M) pc = .ok (.putfield idx, 3)) (hf : zw_pf (zy M).cls idx ci kf fty fin) (hi0 : (zy M).name = "<init>") (hr : zw_isr ci kf = true) (hk : sh.2.1 i = (ci + 3, n)) (hn : kf < n) (hi : i < sh.1) (hj : j < sh.1) (h1 : ∀ a : Nat, narrow fty (.ref a) = .ref a) (h2 : ∀ a : Nat, fits fty (.ref a) = true) (k : zw_Wp l M (zq sh i kf j) (pc + 3) ls st mem bc bs Q) : zw_Wp l M sh pc ls (zR j :: zR i :: st) mem bc bs Q := by
  intro p e R s m args below meth c Z G ad0 N0 H locs ad lsM cells slots C X
  obtain ⟨hW, hS, hL, hT, hE⟩ := X
  obtain ⟨C0, T, N, ty, ⟨hc, hin, hty, hnm⟩, hkN, hlk, hfin, hty1, hown⟩ := hf
  have go : ∀ (H1 : Heap) (locs1 : List Loc), va_P G.1 vwCl ((zw_ws G ad sh mem).set i (ad i, .inr (ci, ((List.range n).map (fun k => zw_fld ad sh mem ci i k)).set kf (.ref (ad j))))) H1 → va_D (fun q => G.2.2 ≤ q) ((zw_ws G ad sh mem).set i (ad i, .inr (ci, ((List.range n).map (fun k => zw_fld ad sh mem ci i k)).set kf (.ref (ad j))))) → va_S (fun q => G.2.2 ≤ q) s.heap H1 locs1 → W p l e R s m args below meth c H1 locs1 cells slots Z (F0 m (pc + 3) lsM (st.map (zw_val ad))) := by
    intro H1 locs1 hP1 hD1 hS1
    have he : (.inr (ci, ((List.range n).map (fun k => zw_fld ad sh mem ci i k)).set kf (.ref (ad j))) : va_E) = zw_ent G ad (zq sh i kf j) mem i := by
      unfold zw_ent
      rw [show (zq sh i kf j).2.1 i = (ci + 3, n) from hk]
      show (Sum.inr (ci, _) : va_E) = Sum.inr (ci, _)
      congr 2
      apply List.ext_getElem?
      intro x
      rw [List.getElem?_set]
      by_cases hx : x < n
      · by_cases hkj : kf = x
        · subst hkj
          simp [hx, zw_fld, hr, zq, zur, va_rf]
        · rw [if_neg hkj]
          have h9 : zur sh.2.2 i kf j i x = sh.2.2 i x := if_neg (fun h => hkj h.2.symm)
          simp [hx, zw_fld, zq, h9]
      · have hkj : kf ≠ x := by omega
        rw [if_neg hkj]
        simp [hx]
    exact k p e R s m args below meth c Z G ad0 N0 H1 locs1 ad lsM cells slots C ⟨hW.putR C.2.2.2.2.2.2.1 hS hi hj he hP1 hD1 hS1, hS1, hL, hT.2.2, hE⟩
  cases fin with
  | false => exact va_put C.1 C.2.1 C.2.2.2.2.1 hin ty hty hnm C.2.2.2.1 hW.1 hW.2.1 hW.2.2.1 hS i (zw_at_ob hk hi) hc kf hkN (C.2.2.2.2.1 _ hlk) (fun _ h => h) hfin (ty := fty) (v := .ref (ad j)) (by rw [hty kf hkN, hty1]) (h1 _) (h2 _) (by simp [hn]) hd go
  | true => exact va_putF C.1 C.2.1 C.2.2.2.2.1 hin ty hty hnm C.2.2.2.1 hW.1 hW.2.1 hW.2.2.1 hS i (zw_at_ob hk hi) hc kf hkN (C.2.2.2.2.1 _ hlk) (fun _ h => h) hfin (C.2.2.2.2.2.1.1.trans hi0) hown (ty := fty) (v := .ref (ad j)) (by rw [hty kf hkN, hty1]) (h1 _) (h2 _) (by simp [hn]) hd go
set_option maxHeartbeats 4000000 in
theorem wp_aast {l : Launch} {M : zMM} {sh : zSh} {pc : Nat} {ls : List (Option zV)} {st : List zV} {mem : zMem} {bc bs : Nat} {Q : zQ} {n i x nx : Nat} {j : Int} (hd : decode (zc M) pc = .ok (.aastore, 1)) (hk : sh.2.1 i = (2, n)) (hi : i < sh.1) (hkx : sh.2.1 x = (3 + 3, nx)) (hx : x < sh.1) (h0 : 0 ≤ j) (h1 : j < n) (k : zw_Wp l M (zq sh i j.toNat x) (pc + 1) ls st mem bc bs Q) : zw_Wp l M sh pc ls (zR x :: zI j :: zR i :: st) mem bc bs Q := by
  intro p e R s m args below meth c Z G ad0 N0 H locs ad lsM cells slots C X
  obtain ⟨hW, hS, hL, hT, hE⟩ := X
  obtain ⟨q1, q2⟩ := zo_clamp h0 h1 hT.2.1
  refine va_astq C.1 C.2.1 hW.1 hW.2.1 hW.2.2.1 hS i 2 x 3 (zw_at_pa hk hi) rfl (zw_at_ob hkx hx) zcl_X4.1 q1 hd (fun H1 locs1 hP1 hD1 hS1 => ?_)
  rw [q2] at hP1 hD1
  have he : (.inl (G.2.1.2.2, n, .inr (.inr (.inr (.inr (va_up (fun k => (sh.2.2 i k).map ad) j.toNat (some (ad x))))))) : va_E) = zw_ent G ad (zq sh i j.toNat x) mem i := by
    unfold zw_ent
    rw [show (zq sh i j.toNat x).2.1 i = (2, n) from hk]
    show (Sum.inl (G.2.1.2.2, n, _) : va_E) = Sum.inl (G.2.1.2.2, n, _)
    congr 7
    funext y
    by_cases hy : y = j.toNat
    · subst hy
      simp [va_up, zq, zur]
    · simp [va_up, zq, zur, hy]
  exact k p e R s m args below meth c Z G ad0 N0 H1 locs1 ad lsM cells slots C ⟨hW.putR C.2.2.2.2.2.2.1 hS hi hx he hP1 hD1 hS1, hS1, hL, hT.2.2.2, hE⟩
set_option maxHeartbeats 4000000 in
theorem wp_oinit {l : Launch} {M : zMM} {sh : zSh} {pc : Nat} {ls : List (Option zV)} {st : List zV} {mem : zMem} {bc bs : Nat} {Q : zQ} {idx i : Nat} (hd : decode (zc M) pc = .ok (.invokespecial idx, 3)) (hl : Cond.methodLink (zy M).cls idx Lib.objectInit ∈ lw_g) (h1 : Cond.instanceMethod Lib.objectInit ∈ lw_g) (h2 : Cond.code Lib.objectInit ⟨#[0xb1]⟩ 1 none ∈ lw_g) (hF : 1 ≤ zF M ∧ 20 ≤ zL M) (hs : (st.map zw_cat).sum ≤ 8) (k : zw_Wp l M sh (pc + 3) ls st mem bc bs Q) : zw_Wp l M sh pc ls (zR i :: st) mem bc bs Q := by
  intro p e R s m args below meth c Z G ad0 N0 H locs ad lsM cells slots C X
  obtain ⟨hW, hS, hL, hT, hE⟩ := X
  have hts := C.2.2.2.2.1
  have hRo := C.2.2.2.2.2.2.2.1
  have hrm : 2 * (F0 m pc lsM ((zR i :: st).map (zw_val ad))).monitorRoom + ((st.map (zw_val ad)).map fun v => v.category).sum ≤ 8 := lv_room (by rw [zw_catsum]; exact hs)
  refine W.objInit C.1 C.2.1 C.2.2.2.1 (hts _ hl) (hts _ h1) (hts _ h2) rfl (hL.1.trans C.2.2.1.symm) (a := ad i) (rest := st.map (zw_val ad)) rfl hd (by have := hRo.1; omega) (by have := hRo.2; omega) ?_
  exact k p e R s m args below meth c Z G ad0 N0 H locs ad lsM cells slots C ⟨hW, hS, hL, hT.2, hE⟩
set_option maxHeartbeats 4000000 in
theorem wp_callI {l : Launch} {M : zMM} {sh : zSh} {pc : Nat} {ls : List (Option zV)} {rest : List zV} {mem : zMem} {bc bs : Nat} {Q : zQ} {M' : zMM} {idx i : Nat} (hd : decode (zc M) pc = .ok (.invokespecial idx, 3)) (hl : Cond.methodLink (zy M).cls idx (zy M') ∈ lw_g) (hm : zw_mC M' 0) (hF : zF M' + 1 ≤ zF M ∧ 8 + (zn M' + 11) + zL M' ≤ zL M) (hb : zmc M' ≤ bc ∧ zms M' ≤ bs) (hs : (rest.map zw_cat).sum ≤ 8) (k : zw_Ok l M' [zR i] sh mem (fun r sh' mem' => zw_Wp l M sh' (pc + 3) ls (r.toList ++ rest) mem' (bc - zmc M') (bs - zms M') Q)) : zw_Wp l M sh pc ls (zR i :: rest) mem bc bs Q := by
  intro p e R s m args below meth c Z G ad0 N0 H locs ad lsM cells slots C X
  obtain ⟨hW, hS, hL, hT, hE⟩ := X
  have hts := C.2.2.2.2.1
  have hRo := C.2.2.2.2.2.2.2.1
  have hM := k G ad ⟨hT.1, trivial⟩
  obtain ⟨y', c', n', r', fb, mb⟩ := M'
  have h0 : r' = none := hm.2.2.2
  subst h0
  have hrun : va_Run p l e R s m args below meth c H locs cells slots mb.1 mb.2 (F0 m pc lsM ((zR i :: rest).map (zw_val ad))) (rest.map (zw_val ad)) (zw_Qc G ad sh.1 _ (Value.ref (ad i) :: []).toArray) (fun q => G.2.2 ≤ q) :=
    va_runI (n := 0) (b := ad i) (As := []) ⟨C.1, C.2.1, C.2.2.1, C.2.2.2.1, C.2.2.2.2.1⟩ hM ⟨callB_of 0 hts (zw_good hm.1.1) rfl rfl rfl (hts _ hm.1.2.1) (hts _ hl) hm.1.2.2 ⟨by have : fb.1 + 1 ≤ zF M := hF.1; have := hRo.1; show fb.1 + 1 ≤ _; omega, by have : 8 + (n' + 11) + fb.2 ≤ zL M := hF.2; have := hRo.2; show 8 + (n' + 11) + fb.2 ≤ _; omega⟩, hm.2.2.1, hts _ hm.2.1⟩ ⟨zw_blind, fun U hU hWa => ⟨rfl, by rw [hU]; exact hW.moved hWa.alike, by rw [hU]; exact Nat.le_trans C.2.2.2.2.2.2.1 hS.1, zw_N.warm hWa C.2.2.2.2.2.1.2⟩⟩
      rfl rfl hL.1 rfl (lv_room (by rw [zw_catsum]; exact hs)) hd ⟨by have := hE.2.1; have : mb.1 ≤ bc := hb.1; omega, by have := hE.2.2; have : mb.2 ≤ bs := hb.2; omega⟩
  refine zw_go (rest := rest.map (zw_val ad)) hrun hS (fun r sh' mem' ad' H1 locs1 hok hq hx hwd hS1 => ?_)
  have e1 : r.toList.map (zw_val ad') ++ rest.map (zw_val ad) = (r.toList ++ rest).map (zw_val ad') := by rw [List.map_append, zw_map_ext hx.2 hT.2]
  rw [e1]
  exact hq p e R s m args below meth c Z G ad0 N0 H1 locs1 ad' lsM _ _ C ⟨hwd, hS1, hL.ext hx.1 hx.2, zw_oks_app.mpr ⟨hok, zw_oks_mono hx.1 hT.2⟩, ⟨Nat.le_trans hE.1.1 hx.1, fun i hi => (hx.2 i (by rcases hi with h | h; exact Or.inl (Nat.lt_of_lt_of_le h hE.1.1); exact Or.inr h)).trans (hE.1.2 i hi)⟩, by have := hE.2.1; have : mb.1 ≤ bc := hb.1; show _ + mb.1 + (bc - mb.1) ≤ _; omega, by have := hE.2.2; have : mb.2 ≤ bs := hb.2; show _ + mb.2 + (bs - mb.2) ≤ _; omega⟩
set_option maxHeartbeats 4000000 in
theorem wp_callN {l : Launch} {M : zMM} {sh : zSh} {pc : Nat} {ls : List (Option zV)} {rest : List zV} {mem : zMem} {bc bs : Nat} {Q : zQ} {M' : zMM} {idx i : Nat} (hd : decode (zc M) pc = .ok (.invokespecial idx, 3)) (hl : ∃ host : String, ((zy M).cls, idx, zy M', host) ∈ zw_nest) (hm : zw_mC M' 0) (hF : zF M' + 1 ≤ zF M ∧ 8 + (zn M' + 11) + zL M' ≤ zL M) (hb : zmc M' ≤ bc ∧ zms M' ≤ bs) (hs : (rest.map zw_cat).sum ≤ 8) (k : zw_Ok l M' [zR i] sh mem (fun r sh' mem' => zw_Wp l M sh' (pc + 3) ls (r.toList ++ rest) mem' (bc - zmc M') (bs - zms M') Q)) : zw_Wp l M sh pc ls (zR i :: rest) mem bc bs Q := by
  intro p e R s m args below meth c Z G ad0 N0 H locs ad lsM cells slots C X
  obtain ⟨hW, hS, hL, hT, hE⟩ := X
  have hts := C.2.2.2.2.1
  have hRo := C.2.2.2.2.2.2.2.1
  have hM := k G ad ⟨hT.1, trivial⟩
  obtain ⟨y', c', n', r', fb, mb⟩ := M'
  have h0 : r' = none := hm.2.2.2
  subst h0
  have hrun : va_Run p l e R s m args below meth c H locs cells slots mb.1 mb.2 (F0 m pc lsM ((zR i :: rest).map (zw_val ad))) (rest.map (zw_val ad)) (zw_Qc G ad sh.1 _ (Value.ref (ad i) :: []).toArray) (fun q => G.2.2 ≤ q) :=
    va_runIN (host := hl.choose) (n := 0) (b := ad i) (As := []) ⟨C.1, C.2.1, C.2.2.1, C.2.2.2.1, C.2.2.2.2.1⟩ hM ⟨va_cnB 0 hts (zw_good hm.1.1) rfl rfl rfl (C.2.2.2.2.2.1.2.1 _ hl.choose_spec) (hts _ hm.1.2.1) hm.1.2.2 ⟨by have : fb.1 + 1 ≤ zF M := hF.1; have := hRo.1; show fb.1 + 1 ≤ _; omega, by have : 8 + (n' + 11) + fb.2 ≤ zL M := hF.2; have := hRo.2; show 8 + (n' + 11) + fb.2 ≤ _; omega⟩, hm.2.2.1, hts _ hm.2.1⟩ ⟨zw_blind, fun U hU hWa => ⟨rfl, by rw [hU]; exact hW.moved hWa.alike, by rw [hU]; exact Nat.le_trans C.2.2.2.2.2.2.1 hS.1, zw_N.warm hWa C.2.2.2.2.2.1.2⟩⟩
      rfl rfl hL.1 rfl (lv_room (by rw [zw_catsum]; exact hs)) hd ⟨by have := hE.2.1; have : mb.1 ≤ bc := hb.1; omega, by have := hE.2.2; have : mb.2 ≤ bs := hb.2; omega⟩
  refine zw_go (rest := rest.map (zw_val ad)) hrun hS (fun r sh' mem' ad' H1 locs1 hok hq hx hwd hS1 => ?_)
  have e1 : r.toList.map (zw_val ad') ++ rest.map (zw_val ad) = (r.toList ++ rest).map (zw_val ad') := by rw [List.map_append, zw_map_ext hx.2 hT.2]
  rw [e1]
  exact hq p e R s m args below meth c Z G ad0 N0 H1 locs1 ad' lsM _ _ C ⟨hwd, hS1, hL.ext hx.1 hx.2, zw_oks_app.mpr ⟨hok, zw_oks_mono hx.1 hT.2⟩, ⟨Nat.le_trans hE.1.1 hx.1, fun i hi => (hx.2 i (by rcases hi with h | h; exact Or.inl (Nat.lt_of_lt_of_le h hE.1.1); exact Or.inr h)).trans (hE.1.2 i hi)⟩, by have := hE.2.1; have : mb.1 ≤ bc := hb.1; show _ + mb.1 + (bc - mb.1) ≤ _; omega, by have := hE.2.2; have : mb.2 ≤ bs := hb.2; show _ + mb.2 + (bs - mb.2) ≤ _; omega⟩
