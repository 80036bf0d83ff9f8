/-! ===== polynomials in cells o, o + 1 (told), o + 2 (coefficients) ===== -/
def zP (o : Nat) : Prop := ∃ k : Nat, k < 6 ∧ (o = 3 + 3 * k ∨ o = 23 + 3 * k)
def zPl : List Nat := [3, 6, 9, 12, 15, 18, 23, 26, 29, 32, 35, 38]
theorem zP.mem {o : Nat} (h : zP o) : o ∈ zPl := by
  obtain ⟨k, hk, h⟩ := h
  simp only [zPl, List.mem_cons]
  omega
theorem zP.all {o : Nat} (h : zP o) : zk 0 o = (3 + 3, 4) ∧ o < 86 ∧ zrf o 2 = some (o + 1) ∧ zrf o 3 = some (o + 2) ∧ zk 0 (o + 1) = (0, 25) ∧ zk 0 (o + 2) = (0, 25) := by
  have : ∀ o ∈ zPl, zk 0 o = (3 + 3, 4) ∧ o < 86 ∧ zrf o 2 = some (o + 1) ∧ zrf o 3 = some (o + 2) ∧ zk 0 (o + 1) = (0, 25) ∧ zk 0 (o + 2) = (0, 25) := by decide +kernel
  exact this o h.mem
theorem zk_L {L i : Nat} (h : i < 1000) : zk L i = zk 0 i := by
  have h1 : ¬ i = 1001 := by omega
  have h2 : ¬ i = 1000 := by omega
  simp only [zk, if_neg h1, if_neg h2]
theorem zP.k {o L : Nat} (h : zP o) : (zS L).2.1 o = (3 + 3, 4) := by
  have h1 := h.all
  show zk L o = _
  rw [zk_L (by omega)]; exact h1.1
theorem zP.i {o L : Nat} (h : zP o) : o < (zS L).1 := by
  have h1 := h.all
  show o < 89
  omega
theorem zP.it {o L : Nat} (h : zP o) : o + 1 < (zS L).1 := by
  have h1 := h.all
  show o + 1 < 89
  omega
theorem zP.ic {o L : Nat} (h : zP o) : o + 2 < (zS L).1 := by
  have h1 := h.all
  show o + 2 < 89
  omega
theorem zP.t {o L : Nat} (h : zP o) : (zS L).2.2 o 2 = some (o + 1) := h.all.2.2.1
theorem zP.c {o L : Nat} (h : zP o) : (zS L).2.2 o 3 = some (o + 2) := h.all.2.2.2.1
theorem zP.kt {o L : Nat} (h : zP o) : (zS L).2.1 (o + 1) = (0, 25) := by
  have h1 := h.all
  show zk L (o + 1) = _
  rw [zk_L (by omega)]; exact h1.2.2.2.2.1
theorem zP.kc {o L : Nat} (h : zP o) : (zS L).2.1 (o + 2) = (0, 25) := by
  have h1 := h.all
  show zk L (o + 2) = _
  rw [zk_L (by omega)]; exact h1.2.2.2.2.2
/-- how many of the first n are unlike 0 -/
def zcnt (f : Int → Int) : Nat → Int
  | 0 => 0
  | n + 1 => zcnt f n + if f n = 0 then 0 else 1
theorem zcnt_rg {f : Int → Int} : ∀ n : Nat, 0 ≤ zcnt f n ∧ zcnt f n ≤ n
  | 0 => ⟨Int.le_refl 0, Int.le_refl 0⟩
  | n + 1 => by
    have := zcnt_rg (f := f) n
    unfold zcnt
    omega
def zvv (by_ i j : Int) : Int := if by_ = 0 then i else if by_ = 1 then j else i + j
/-- the greatest power, by 0 of x, by 1 of y, else of both; -9 -/
def zdeg (c : Int → Int) (by_ : Int) : Nat → Int
  | 0 => -9
  | t + 1 => if zvv by_ ((t : Int) / 5) ((t : Int) % 5) > zdeg c by_ t ∧ c t ≠ 0 then zvv by_ ((t : Int) / 5) ((t : Int) % 5) else zdeg c by_ t
def zdgP (c : Int → Int) (by_ n d : Int) : Prop := (d = -9 ∨ (0 ≤ d ∧ d ≤ 8 ∧ ∃ t : Int, 0 ≤ t ∧ t < n ∧ c t ≠ 0 ∧ zvv by_ (t / 5) (t % 5) = d)) ∧ ∀ t : Int, 0 ≤ t → t < n → c t ≠ 0 → zvv by_ (t / 5) (t % 5) ≤ d
theorem zdeg_P (c : Int → Int) (by_ : Int) : ∀ n : Nat, n ≤ 25 → zdgP c by_ n (zdeg c by_ n)
  | 0, _ => ⟨Or.inl rfl, fun t h1 h2 => by omega⟩
  | n + 1, hn => by
    obtain ⟨h1, h2⟩ := zdeg_P c by_ n (by omega)
    have hv : 0 ≤ zvv by_ ((n : Int) / 5) ((n : Int) % 5) ∧ zvv by_ ((n : Int) / 5) ((n : Int) % 5) ≤ 8 := by unfold zvv; omega
    unfold zdeg
    by_cases hc : zvv by_ ((n : Int) / 5) ((n : Int) % 5) > zdeg c by_ n ∧ c n ≠ 0
    · rw [if_pos hc]
      refine ⟨Or.inr ⟨hv.1, hv.2, n, by omega, by omega, hc.2, rfl⟩, fun t q1 q2 q3 => ?_⟩
      by_cases ht : t = n
      · rw [ht]; exact Int.le_refl _
      · have := h2 t q1 (by omega) q3
        omega
    · rw [if_neg hc]
      refine ⟨?_, fun t q1 q2 q3 => ?_⟩
      · rcases h1 with h1 | ⟨h1, h3, t, h4, h5, h6⟩
        · exact Or.inl h1
        · exact Or.inr ⟨h1, h3, t, h4, by omega, h6⟩
      · by_cases ht : t = n
        · subst ht
          have : ¬ zvv by_ ((n : Int) / 5) ((n : Int) % 5) > zdeg c by_ n := fun q => hc ⟨q, q3⟩
          omega
        · exact h2 t q1 (by omega) q3
theorem zdgP_uniq {c : Int → Int} {by_ n d e : Int} (h : zdgP c by_ n d) (k : zdgP c by_ n e) : d = e := by
  obtain ⟨h1, h2⟩ := h
  obtain ⟨k1, k2⟩ := k
  rcases h1 with h1 | ⟨h1, h3, t, h4, h5, h6, h7⟩
  · rcases k1 with k1 | ⟨k1, k3, u, k4, k5, k6, k7⟩
    · omega
    · have := h2 u k4 k5 k6
      omega
  · rcases k1 with k1 | ⟨k1, k3, u, k4, k5, k6, k7⟩
    · have := k2 t h4 h5 h6
      omega
    · have := h2 u k4 k5 k6
      have := k2 t h4 h5 h6
      omega
def zpt (c : Int → Int) (le a b : Int) : Int := if 0 ≤ a ∧ a ≤ 4 ∧ 0 ≤ b ∧ b ≤ 4 then (if le = 0 then c (5 * a + b) else c (5 * b + a)) else 0
theorem zpt_rg {c : Int → Int} {le a b p : Int} (hp : 0 < p) (h : ∀ t : Int, 0 ≤ t → t < 25 → 0 ≤ c t ∧ c t < p) : 0 ≤ zpt c le a b ∧ zpt c le a b < p := by
  unfold zpt
  split
  · split
    · exact h _ (by omega) (by omega)
    · exact h _ (by omega) (by omega)
  · omega
/-- the k-th term by i, then j -/
def zk0 (c : Int → Int) (k : Int) : Nat → Int
  | 0 => -9
  | n + 1 => if c n = 0 then zk0 c k n else if k = 0 then 10 * ((n : Int) / 5) + (n : Int) % 5 else zk0 c (k - 1) n
/-- the k-th term by i plus j, then i: places 5 s + i -/
def zk1 (c : Int → Int) (k : Int) : Nat → Int
  | 0 => -9
  | m + 1 => if 0 ≤ (m : Int) / 5 - (m : Int) % 5 ∧ (m : Int) / 5 - (m : Int) % 5 ≤ 4 ∧ c (5 * ((m : Int) % 5) + ((m : Int) / 5 - (m : Int) % 5)) ≠ 0 then (if k = 0 then 10 * ((m : Int) % 5) + ((m : Int) / 5 - (m : Int) % 5) else zk1 c (k - 1) m) else zk1 c k m
theorem zk1_skip {c : Int → Int} {k : Int} {m : Nat} (h : (m : Int) / 5 - (m : Int) % 5 < 0 ∨ 4 < (m : Int) / 5 - (m : Int) % 5) : zk1 c k (m + 1) = zk1 c k m := by
  rw [zk1, if_neg (by omega)]
theorem zk1_hi {c : Int → Int} {k : Int} {s : Nat} : ∀ d : Nat, d ≤ 4 → s < d → zk1 c k (5 * s + d + 1) = zk1 c k (5 * s + s + 1)
  | 0, _, h => by omega
  | d + 1, h1, h2 => by
    rw [show 5 * s + (d + 1) + 1 = (5 * s + (d + 1)) + 1 from rfl, zk1_skip (Or.inl (by omega))]
    by_cases h : s < d
    · exact zk1_hi d (by omega) h
    · have : s = d := by omega
      subst this; rfl
theorem zk1_lo {c : Int → Int} {k : Int} {s : Nat} : ∀ d : Nat, d ≤ 5 → d + 4 ≤ s → zk1 c k (5 * s + d) = zk1 c k (5 * s)
  | 0, _, _ => rfl
  | d + 1, h1, h2 => by
    rw [show 5 * s + (d + 1) = (5 * s + d) + 1 from rfl, zk1_skip (Or.inr (by omega))]
    exact zk1_lo d (by omega) (by omega)

set_option maxRecDepth 100000 in
set_option maxHeartbeats 4000000 in
theorem sp_X4_hasTerm {l : Launch} {L : Nat} {mem : zMem} {Q : zQ}  (o : Nat) (i : Int) (j : Int) (ho : zP o) (hi : 0 ≤ i ∧ i ≤ 4) (hj : 0 ≤ j ∧ j ≤ 4) (k : Q (some (zI (if mem (o + 2) (5 * i + j) = 0 then 0 else 1))) (zS L) mem) : zw_Ok l mm_X4_hasTerm [zR o, zI i, zI j] (zS L) mem Q := by
  refine zw_okA (fun hA => ?_)
  have rg_i : -2147483648 ≤ i ∧ i < 2147483648 := hA.2.1
  have rg_j : -2147483648 ≤ j ∧ j < 2147483648 := hA.2.2.1
  refine zw_enter (by decide) (Nat.le_of_ble_eq_true rfl) rfl ?_
  show zw_Wp l mm_X4_hasTerm (zS L) 0 [some (zR o), some (zI i), some (zI j)] [] mem 0 0 Q
  refine wp_aload_n dd_X4_hasTerm_0 rfl ?_
  refine wp_getR dd_X4_hasTerm_1 gf_X4_15 rfl ho.k (by decide) ho.i ho.c ?_
  refine wp_iconst dd_X4_hasTerm_4 (zr_lit rfl) ?_
  refine wp_iload_n dd_X4_hasTerm_5 rfl ?_
  refine wp_imulC dd_X4_hasTerm_6 (by omega) ?_
  refine wp_iload_n dd_X4_hasTerm_7 rfl ?_
  refine wp_iaddC dd_X4_hasTerm_8 (by omega) ?_
  refine wp_iald dd_X4_hasTerm_9 ho.kc ho.ic (by omega) (by omega) ?_
  refine wp_if_eq (tgt := 17) dd_X4_hasTerm_10 (by decide) (fun c10_1 => ?_) (fun c10_1 => ?_)
  · skip
    refine wp_iconst dd_X4_hasTerm_17 (zr_lit rfl) ?_
    refine wp_zreturn (st := []) dd_X4_hasTerm_18 rfl (by omega) ?_
    refine zq_I ?_ ?_ k
    · first | rfl | omega | (rw [if_pos (by omega)]) | (rw [if_neg (by omega)])
    · rfl
  · skip
    refine wp_iconst dd_X4_hasTerm_13 (zr_lit rfl) ?_
    refine wp_goto (tgt := 18) dd_X4_hasTerm_14 (by decide) ?_
    refine wp_zreturn (st := []) dd_X4_hasTerm_18 rfl (by omega) ?_
    refine zq_I ?_ ?_ k
    · first | rfl | omega | (rw [if_pos (by omega)]) | (rw [if_neg (by omega)])
    · rfl

set_option maxRecDepth 100000 in
set_option maxHeartbeats 4000000 in
theorem sp_X4_howManyTerms {l : Launch} {L : Nat} {mem : zMem} {Q : zQ}  (o : Nat) (ho : zP o) (k : Q (some (zI (zcnt (mem (o + 2)) 25))) (zS L) mem) : zw_Ok l mm_X4_howManyTerms [zR o] (zS L) mem Q := by
  refine zw_enter (by decide) (Nat.le_of_ble_eq_true rfl) rfl ?_
  show zw_Wp l mm_X4_howManyTerms (zS L) 0 [some (zR o), none, none, none, none, none] [] mem 0 0 Q
  refine wp_iconst dd_X4_howManyTerms_0 (zr_lit rfl) ?_
  refine wp_istore_n (ls2 := [some (zR o), some (zI 0), none, none, none, none]) dd_X4_howManyTerms_1 rfl (by decide) rfl ?_
  refine wp_aload_n dd_X4_howManyTerms_2 rfl ?_
  refine wp_getR dd_X4_howManyTerms_3 gf_X4_15 rfl ho.k (by decide) ho.i ho.c ?_
  refine wp_astore_n (ls2 := [some (zR o), some (zI 0), some (zR (o + 2)), none, none, none]) dd_X4_howManyTerms_6 rfl (by decide) rfl ?_
  refine wp_aload_n dd_X4_howManyTerms_7 rfl ?_
  refine wp_alen dd_X4_howManyTerms_8 ho.kc ho.ic (by decide) ?_
  show zw_Wp l mm_X4_howManyTerms (zS L) 9 [some (zR o), some (zI 0), some (zR (o + 2)), none, none, none] [zI 25] mem 0 0 Q
  refine wp_istore_n (ls2 := [some (zR o), some (zI 0), some (zR (o + 2)), some (zI 25), none, none]) dd_X4_howManyTerms_9 rfl (by decide) rfl ?_
  refine wp_iconst dd_X4_howManyTerms_10 (zr_lit rfl) ?_
  refine wp_istore (ls2 := [some (zR o), some (zI 0), some (zR (o + 2)), some (zI 25), some (zI 0), none]) dd_X4_howManyTerms_11 rfl (by decide) rfl ?_
  have lp13 : ∀ (nf : Nat) (a : Int) (i : Int), (0 ≤ i) → (i ≤ 25) → (a = zcnt (mem (o + 2)) i.toNat) → (25 - i) < (nf : Int) → zw_Wp l mm_X4_howManyTerms (zS L) 13 [some (zR o), some (zI a), some (zR (o + 2)), some (zI 25), some (zI i), none] [] mem 0 0 Q := by
    intro nf
    induction nf with
    | zero =>
      intro a i h0 h1 h2 hmu
      exfalso; omega
    | succ nf ih13 =>
      intro a i h0 h1 h2 hmu
      have ha := zcnt_rg (f := mem (o + 2)) i.toNat
      refine wp_iload dd_X4_howManyTerms_13 rfl ?_
      refine wp_iload_n dd_X4_howManyTerms_15 rfl ?_
      refine wp_icmp_ge (tgt := 39) dd_X4_howManyTerms_16 (by decide) (fun c16_1 => ?_) (fun c16_1 => ?_)
      · skip
        refine wp_iload_n dd_X4_howManyTerms_39 rfl ?_
        refine wp_ireturn (st := []) dd_X4_howManyTerms_40 rfl ?_
        refine zq_I ?_ ?_ k
        · have e : i = 25 := by omega
          subst e; exact h2
        · rfl
      · skip
        refine wp_aload_n dd_X4_howManyTerms_19 rfl ?_
        refine wp_iload dd_X4_howManyTerms_20 rfl ?_
        refine wp_iald dd_X4_howManyTerms_22 ho.kc ho.ic (by omega) (by omega) ?_
        refine wp_istore (ls2 := [some (zR o), some (zI a), some (zR (o + 2)), some (zI 25), some (zI i), some (zI (mem (o + 2) i))]) dd_X4_howManyTerms_23 rfl (by decide) rfl ?_
        refine wp_iload dd_X4_howManyTerms_25 rfl ?_
        refine wp_if_eq (tgt := 33) dd_X4_howManyTerms_27 (by decide) (fun c27_2 => ?_) (fun c27_2 => ?_)
        · skip
          refine wp_iincC (ls2 := [some (zR o), some (zI a), some (zR (o + 2)), some (zI 25), some (zI (i + 1)), some (zI (mem (o + 2) i))]) dd_X4_howManyTerms_33 rfl rfl (by decide) (by omega) rfl ?_
          refine wp_goto (tgt := 13) dd_X4_howManyTerms_36 (by decide) ?_
          refine wp_ls (zw_sub_of (a := [some (zR o), some (zI a), some (zR (o + 2)), some (zI 25), some (zI (i + 1)), none]) (And.intro rfl (And.intro rfl (And.intro rfl (And.intro rfl (And.intro rfl (trivial))))))) ?_
          refine ih13 a (i + 1) ?_ ?_ ?_ ?_
          · first | omega | assumption | (intros; omega)
          · first | omega | assumption | (intros; omega)
          · have e : (i + 1).toNat = i.toNat + 1 := by omega
            have e2 : ((i.toNat : Nat) : Int) = i := by omega
            rw [e, zcnt, e2]
            first | (rw [if_pos (by assumption)]; omega) | (rw [if_neg (by assumption)]; omega)
          · omega
        · skip
          refine wp_iincC (ls2 := [some (zR o), some (zI (a + 1)), some (zR (o + 2)), some (zI 25), some (zI i), some (zI (mem (o + 2) i))]) dd_X4_howManyTerms_30 rfl rfl (by decide) (by omega) rfl ?_
          refine wp_iincC (ls2 := [some (zR o), some (zI (a + 1)), some (zR (o + 2)), some (zI 25), some (zI (i + 1)), some (zI (mem (o + 2) i))]) dd_X4_howManyTerms_33 rfl rfl (by decide) (by omega) rfl ?_
          refine wp_goto (tgt := 13) dd_X4_howManyTerms_36 (by decide) ?_
          refine wp_ls (zw_sub_of (a := [some (zR o), some (zI (a + 1)), some (zR (o + 2)), some (zI 25), some (zI (i + 1)), none]) (And.intro rfl (And.intro rfl (And.intro rfl (And.intro rfl (And.intro rfl (trivial))))))) ?_
          refine ih13 (a + 1) (i + 1) ?_ ?_ ?_ ?_
          · first | omega | assumption | (intros; omega)
          · first | omega | assumption | (intros; omega)
          · have e : (i + 1).toNat = i.toNat + 1 := by omega
            have e2 : ((i.toNat : Nat) : Int) = i := by omega
            rw [e, zcnt, e2]
            first | (rw [if_pos (by assumption)]; omega) | (rw [if_neg (by assumption)]; omega)
          · omega
  refine lp13 ((25 - 0 : Int)).toNat.succ 0 0 ?_ ?_ ?_ ?_
  · first | omega | assumption | (intros; omega)
  · first | omega | assumption | (intros; omega)
  · rfl
  · omega

set_option maxRecDepth 100000 in
set_option maxHeartbeats 4000000 in
theorem sp_X4_isNought {l : Launch} {L : Nat} {mem : zMem} {Q : zQ}  (o : Nat) (ho : zP o) (k : Q (some (zI (if zcnt (mem (o + 2)) 25 = 0 then 1 else 0))) (zS L) mem) : zw_Ok l mm_X4_isNought [zR o] (zS L) mem Q := by
  refine zw_enter (by decide) (Nat.le_of_ble_eq_true rfl) rfl ?_
  show zw_Wp l mm_X4_isNought (zS L) 0 [some (zR o)] [] mem 0 0 Q
  refine wp_aload_n dd_X4_isNought_0 rfl ?_
  refine wp_callV (M' := mm_X4_howManyTerms) (As := []) (rest := []) dd_X4_isNought_1 lk_X4_62 mV_X4_howManyTerms ho.k ho.i ⟨_, _, rfl⟩ rfl (by decide) (by decide) (Nat.le_of_ble_eq_true rfl) rfl (sp_X4_howManyTerms  o (by first | assumption | omega) ?_)
  show zw_Wp l mm_X4_isNought (zS L) 4 [some (zR o)] [zI (zcnt (mem (o + 2)) 25)] mem 0 0 Q
  refine wp_if_ne (tgt := 11) dd_X4_isNought_4 (by decide) (fun c4_1 => ?_) (fun c4_1 => ?_)
  · skip
    refine wp_iconst dd_X4_isNought_11 (zr_lit rfl) ?_
    refine wp_zreturn (st := []) dd_X4_isNought_12 rfl (by omega) ?_
    refine zq_I ?_ ?_ k
    · first | rfl | omega | (rw [if_pos (by omega)]) | (rw [if_neg (by omega)])
    · rfl
  · skip
    refine wp_iconst dd_X4_isNought_7 (zr_lit rfl) ?_
    refine wp_goto (tgt := 12) dd_X4_isNought_8 (by decide) ?_
    refine wp_zreturn (st := []) dd_X4_isNought_12 rfl (by omega) ?_
    refine zq_I ?_ ?_ k
    · first | rfl | omega | (rw [if_pos (by omega)]) | (rw [if_neg (by omega)])
    · rfl

theorem zdg_no {c : Int → Int} {by_ n d : Int} (h : zdgP c by_ n d) (h0 : c n = 0) : zdgP c by_ (n + 1) d := by
  refine ⟨?_, fun t q1 q2 q3 => ?_⟩
  · rcases h.1 with h1 | ⟨h1, h3, t, h4, h5, h6⟩
    · exact Or.inl h1
    · exact Or.inr ⟨h1, h3, t, h4, by omega, h6⟩
  · by_cases ht : t = n
    · subst ht; exact absurd h0 q3
    · exact h.2 t q1 (by omega) q3
theorem zdg_yes {c : Int → Int} {by_ n d v : Int} (h : zdgP c by_ n d) (hn : 0 ≤ n) (hv : zvv by_ (n / 5) (n % 5) = v) (hv0 : 0 ≤ v ∧ v ≤ 8) (h0 : c n ≠ 0) : zdgP c by_ (n + 1) (max d v) := by
  refine ⟨?_, fun t q1 q2 q3 => ?_⟩
  · by_cases hg : d ≤ v
    · exact Or.inr ⟨by omega, by omega, n, hn, by omega, h0, by omega⟩
    · rcases h.1 with h1 | ⟨h1, h3, t, h4, h5, h6, h7⟩
      · omega
      · exact Or.inr ⟨by omega, by omega, t, h4, by omega, h6, by omega⟩
  · by_cases ht : t = n
    · subst ht; omega
    · have := h.2 t q1 (by omega) q3
      omega
theorem zdg_rg {c : Int → Int} {by_ n d : Int} (h : zdgP c by_ n d) : -9 ≤ d ∧ d ≤ 8 := by
  rcases h.1 with h1 | h1 <;> omega
set_option maxRecDepth 100000 in
set_option maxHeartbeats 4000000 in
theorem sp_X4_degreeIn {l : Launch} {L : Nat} {mem : zMem} {Q : zQ}  (o : Nat) (le : Int) (ho : zP o) (hl : le = 0 ∨ le = 1) (k : Q (some (zI (zdeg (mem (o + 2)) le 25))) (zS L) mem) : zw_Ok l mm_X4_degreeIn [zR o, zI le] (zS L) mem Q := by
  refine zw_okA (fun hA => ?_)
  have rg_le : -2147483648 ≤ le ∧ le < 2147483648 := hA.2.1
  refine zw_enter (by decide) (Nat.le_of_ble_eq_true rfl) rfl ?_
  show zw_Wp l mm_X4_degreeIn (zS L) 0 [some (zR o), some (zI le), none, none, none] [] mem 0 0 Q
  refine wp_bipush dd_X4_degreeIn_0 (by decide) ?_
  refine wp_istore_n (ls2 := [some (zR o), some (zI le), some (zI (-9)), none, none]) dd_X4_degreeIn_2 rfl (by decide) rfl ?_
  refine wp_iconst dd_X4_degreeIn_3 (zr_lit rfl) ?_
  refine wp_istore_n (ls2 := [some (zR o), some (zI le), some (zI (-9)), some (zI 0), none]) dd_X4_degreeIn_4 rfl (by decide) rfl ?_
  have lp5 : ∀ (nf : Nat) (g : Int) (i : Int), (0 ≤ i) → (i ≤ 5) → (zdgP (mem (o + 2)) le (5 * i) g) → (5 - i) < (nf : Int) → zw_Wp l mm_X4_degreeIn (zS L) 5 [some (zR o), some (zI le), some (zI g), some (zI i), none] [] mem 0 0 Q := by
    intro nf
    induction nf with
    | zero =>
      intro g i h0 h1 hP hmu
      exfalso; omega
    | succ nf ih5 =>
      intro g i h0 h1 hP hmu
      refine wp_iload_n dd_X4_degreeIn_5 rfl ?_
      refine wp_iconst dd_X4_degreeIn_6 (zr_lit rfl) ?_
      refine wp_icmp_ge (tgt := 56) dd_X4_degreeIn_7 (by decide) (fun c7_1 => ?_) (fun c7_1 => ?_)
      · skip
        refine wp_iload_n dd_X4_degreeIn_56 rfl ?_
        refine wp_ireturn (st := []) dd_X4_degreeIn_57 rfl ?_
        refine zq_I ?_ ?_ k
        · have e9 : 5 * i = 25 := by omega
          rw [e9] at hP
          exact zdgP_uniq hP (zdeg_P (mem (o + 2)) le 25 (by omega))
        · rfl
      · skip
        refine wp_iconst dd_X4_degreeIn_10 (zr_lit rfl) ?_
        refine wp_istore (ls2 := [some (zR o), some (zI le), some (zI g), some (zI i), some (zI 0)]) dd_X4_degreeIn_11 rfl (by decide) rfl ?_
        have lp13 : ∀ (nf : Nat) (g : Int) (j : Int), (0 ≤ j) → (j ≤ 5) → (zdgP (mem (o + 2)) le (5 * i + j) g) → (5 - j) < (nf : Int) → zw_Wp l mm_X4_degreeIn (zS L) 13 [some (zR o), some (zI le), some (zI g), some (zI i), some (zI j)] [] mem 0 0 Q := by
          intro nf
          induction nf with
          | zero =>
            intro g j h2 h3 hP hmu
            exfalso; omega
          | succ nf ih13 =>
            intro g j h2 h3 hP hmu
            refine wp_iload dd_X4_degreeIn_13 rfl ?_
            refine wp_iconst dd_X4_degreeIn_15 (zr_lit rfl) ?_
            refine wp_icmp_ge (tgt := 50) dd_X4_degreeIn_16 (by decide) (fun c16_2 => ?_) (fun c16_2 => ?_)
            · skip
              refine wp_iincC (ls2 := [some (zR o), some (zI le), some (zI g), some (zI (i + 1)), some (zI j)]) dd_X4_degreeIn_50 rfl rfl (by decide) (by omega) rfl ?_
              refine wp_goto (tgt := 5) dd_X4_degreeIn_53 (by decide) ?_
              refine wp_ls (zw_sub_of (a := [some (zR o), some (zI le), some (zI g), some (zI (i + 1)), none]) (And.intro rfl (And.intro rfl (And.intro rfl (And.intro rfl (trivial)))))) ?_
              refine ih5 g (i + 1) ?_ ?_ ?_ ?_
              · first | omega | assumption | (intros; omega)
              · first | omega | assumption | (intros; omega)
              · have e9 : 5 * (i + 1) = 5 * i + j := by omega
                rw [e9]; exact hP
              · omega
            · skip
              refine wp_aload_n dd_X4_degreeIn_19 rfl ?_
              refine wp_iload_n dd_X4_degreeIn_20 rfl ?_
              refine wp_iload dd_X4_degreeIn_21 rfl ?_
              refine wp_callV (M' := mm_X4_hasTerm) (As := [zI i, zI j]) (rest := []) dd_X4_degreeIn_23 lk_X4_66 mV_X4_hasTerm ho.k ho.i ⟨_, _, rfl⟩ rfl (by decide) (by decide) (Nat.le_of_ble_eq_true rfl) rfl (sp_X4_hasTerm  o i j (by first | assumption | omega) (by first | assumption | omega) (by first | assumption | omega) ?_)
              show zw_Wp l mm_X4_degreeIn (zS L) 26 [some (zR o), some (zI le), some (zI g), some (zI i), some (zI j)] [zI (if mem (o + 2) (5 * i + j) = 0 then 0 else 1)] mem 0 0 Q
              refine wp_if_eq (tgt := 44) dd_X4_degreeIn_26 (by decide) (fun c26_3 => ?_) (fun c26_3 => ?_)
              · skip
                have hz : mem (o + 2) (5 * i + j) = 0 := by
                  by_cases q : mem (o + 2) (5 * i + j) = 0
                  · exact q
                  · rw [if_neg q] at c26_3; omega
                refine wp_iincC (ls2 := [some (zR o), some (zI le), some (zI g), some (zI i), some (zI (j + 1))]) dd_X4_degreeIn_44 rfl rfl (by decide) (by omega) rfl ?_
                refine wp_goto (tgt := 13) dd_X4_degreeIn_47 (by decide) ?_
                refine ih13 g (j + 1) ?_ ?_ ?_ ?_
                · first | omega | assumption | (intros; omega)
                · first | omega | assumption | (intros; omega)
                · rw [show 5 * i + (j + 1) = 5 * i + j + 1 by omega]
                  first
                  | exact zdg_no hP (by assumption)
                  | exact zdg_yes hP (by omega) (by unfold zvv; omega) (by omega) (by assumption)
                · omega
              · skip
                have hz : mem (o + 2) (5 * i + j) ≠ 0 := fun q => c26_3 (by rw [if_pos q])
                refine wp_iload_n dd_X4_degreeIn_29 rfl ?_
                refine wp_iload_n dd_X4_degreeIn_30 rfl ?_
                refine wp_if_ne (tgt := 38) dd_X4_degreeIn_31 (by decide) (fun c31_4 => ?_) (fun c31_4 => ?_)
                · skip
                  refine wp_iload dd_X4_degreeIn_38 rfl ?_
                  refine wp_callS (M' := mm_J9_max_7cf53) (As := [zI g, zI j]) (rest := []) dd_X4_degreeIn_40 lk_X4_70 mS_J9_max_7cf53 rfl (by decide) (by decide) (Nat.le_of_ble_eq_true rfl) rfl (sp_J9_max_7cf53  g j  ?_)
                  show zw_Wp l mm_X4_degreeIn (zS L) 43 [some (zR o), some (zI le), some (zI g), some (zI i), some (zI j)] [zI (max g j)] mem 0 0 Q
                  refine wp_istore_n (ls2 := [some (zR o), some (zI le), some (zI (max g j)), some (zI i), some (zI j)]) dd_X4_degreeIn_43 rfl (by decide) rfl ?_
                  refine wp_iincC (ls2 := [some (zR o), some (zI le), some (zI (max g j)), some (zI i), some (zI (j + 1))]) dd_X4_degreeIn_44 rfl rfl (by decide) (by omega) rfl ?_
                  refine wp_goto (tgt := 13) dd_X4_degreeIn_47 (by decide) ?_
                  refine ih13 (max g j) (j + 1) ?_ ?_ ?_ ?_
                  · first | omega | assumption | (intros; omega)
                  · first | omega | assumption | (intros; omega)
                  · rw [show 5 * i + (j + 1) = 5 * i + j + 1 by omega]
                    first
                    | exact zdg_no hP (by assumption)
                    | exact zdg_yes hP (by omega) (by unfold zvv; omega) (by omega) (by assumption)
                  · omega
                · skip
                  refine wp_iload_n dd_X4_degreeIn_34 rfl ?_
                  refine wp_goto (tgt := 40) dd_X4_degreeIn_35 (by decide) ?_
                  refine wp_callS (M' := mm_J9_max_7cf53) (As := [zI g, zI i]) (rest := []) dd_X4_degreeIn_40 lk_X4_70 mS_J9_max_7cf53 rfl (by decide) (by decide) (Nat.le_of_ble_eq_true rfl) rfl (sp_J9_max_7cf53  g i  ?_)
                  show zw_Wp l mm_X4_degreeIn (zS L) 43 [some (zR o), some (zI le), some (zI g), some (zI i), some (zI j)] [zI (max g i)] mem 0 0 Q
                  refine wp_istore_n (ls2 := [some (zR o), some (zI le), some (zI (max g i)), some (zI i), some (zI j)]) dd_X4_degreeIn_43 rfl (by decide) rfl ?_
                  refine wp_iincC (ls2 := [some (zR o), some (zI le), some (zI (max g i)), some (zI i), some (zI (j + 1))]) dd_X4_degreeIn_44 rfl rfl (by decide) (by omega) rfl ?_
                  refine wp_goto (tgt := 13) dd_X4_degreeIn_47 (by decide) ?_
                  refine ih13 (max g i) (j + 1) ?_ ?_ ?_ ?_
                  · first | omega | assumption | (intros; omega)
                  · first | omega | assumption | (intros; omega)
                  · rw [show 5 * i + (j + 1) = 5 * i + j + 1 by omega]
                    first
                    | exact zdg_no hP (by assumption)
                    | exact zdg_yes hP (by omega) (by unfold zvv; omega) (by omega) (by assumption)
                  · omega
        refine lp13 ((5 - 0 : Int)).toNat.succ g 0 ?_ ?_ ?_ ?_
        · first | omega | assumption | (intros; omega)
        · first | omega | assumption | (intros; omega)
        · rw [Int.add_zero]; exact hP
        · omega
  refine lp5 ((5 - 0 : Int)).toNat.succ (-9) 0 ?_ ?_ ?_ ?_
  · first | omega | assumption | (intros; omega)
  · first | omega | assumption | (intros; omega)
  · exact ⟨Or.inl rfl, fun t q1 q2 => by omega⟩
  · omega

set_option maxRecDepth 100000 in
set_option maxHeartbeats 4000000 in
theorem sp_X4_wholeDegree {l : Launch} {L : Nat} {mem : zMem} {Q : zQ}  (o : Nat) (ho : zP o) (k : Q (some (zI (zdeg (mem (o + 2)) 2 25))) (zS L) mem) : zw_Ok l mm_X4_wholeDegree [zR o] (zS L) mem Q := by
  refine zw_enter (by decide) (Nat.le_of_ble_eq_true rfl) rfl ?_
  show zw_Wp l mm_X4_wholeDegree (zS L) 0 [some (zR o), none, none, none] [] mem 0 0 Q
  refine wp_bipush dd_X4_wholeDegree_0 (by decide) ?_
  refine wp_istore_n (ls2 := [some (zR o), some (zI (-9)), none, none]) dd_X4_wholeDegree_2 rfl (by decide) rfl ?_
  refine wp_iconst dd_X4_wholeDegree_3 (zr_lit rfl) ?_
  refine wp_istore_n (ls2 := [some (zR o), some (zI (-9)), some (zI 0), none]) dd_X4_wholeDegree_4 rfl (by decide) rfl ?_
  have lp5 : ∀ (nf : Nat) (g : Int) (i : Int), (0 ≤ i) → (i ≤ 5) → (zdgP (mem (o + 2)) 2 (5 * i) g) → (5 - i) < (nf : Int) → zw_Wp l mm_X4_wholeDegree (zS L) 5 [some (zR o), some (zI g), some (zI i), none] [] mem 0 0 Q := by
    intro nf
    induction nf with
    | zero =>
      intro g i h0 h1 hP hmu
      exfalso; omega
    | succ nf ih5 =>
      intro g i h0 h1 hP hmu
      refine wp_iload_n dd_X4_wholeDegree_5 rfl ?_
      refine wp_iconst dd_X4_wholeDegree_6 (zr_lit rfl) ?_
      refine wp_icmp_ge (tgt := 46) dd_X4_wholeDegree_7 (by decide) (fun c7_1 => ?_) (fun c7_1 => ?_)
      · skip
        refine wp_iload_n dd_X4_wholeDegree_46 rfl ?_
        refine wp_ireturn (st := []) dd_X4_wholeDegree_47 rfl ?_
        refine zq_I ?_ ?_ k
        · have e9 : 5 * i = 25 := by omega
          rw [e9] at hP
          exact zdgP_uniq hP (zdeg_P (mem (o + 2)) 2 25 (by omega))
        · rfl
      · skip
        refine wp_iconst dd_X4_wholeDegree_10 (zr_lit rfl) ?_
        refine wp_istore_n (ls2 := [some (zR o), some (zI g), some (zI i), some (zI 0)]) dd_X4_wholeDegree_11 rfl (by decide) rfl ?_
        have lp12 : ∀ (nf : Nat) (g : Int) (j : Int), (0 ≤ j) → (j ≤ 5) → (zdgP (mem (o + 2)) 2 (5 * i + j) g) → (5 - j) < (nf : Int) → zw_Wp l mm_X4_wholeDegree (zS L) 12 [some (zR o), some (zI g), some (zI i), some (zI j)] [] mem 0 0 Q := by
          intro nf
          induction nf with
          | zero =>
            intro g j h2 h3 hP hmu
            exfalso; omega
          | succ nf ih12 =>
            intro g j h2 h3 hP hmu
            refine wp_iload_n dd_X4_wholeDegree_12 rfl ?_
            refine wp_iconst dd_X4_wholeDegree_13 (zr_lit rfl) ?_
            refine wp_icmp_ge (tgt := 40) dd_X4_wholeDegree_14 (by decide) (fun c14_2 => ?_) (fun c14_2 => ?_)
            · skip
              refine wp_iincC (ls2 := [some (zR o), some (zI g), some (zI (i + 1)), some (zI j)]) dd_X4_wholeDegree_40 rfl rfl (by decide) (by omega) rfl ?_
              refine wp_goto (tgt := 5) dd_X4_wholeDegree_43 (by decide) ?_
              refine wp_ls (zw_sub_of (a := [some (zR o), some (zI g), some (zI (i + 1)), none]) (And.intro rfl (And.intro rfl (And.intro rfl (trivial))))) ?_
              refine ih5 g (i + 1) ?_ ?_ ?_ ?_
              · first | omega | assumption | (intros; omega)
              · first | omega | assumption | (intros; omega)
              · have e9 : 5 * (i + 1) = 5 * i + j := by omega
                rw [e9]; exact hP
              · omega
            · skip
              refine wp_aload_n dd_X4_wholeDegree_17 rfl ?_
              refine wp_iload_n dd_X4_wholeDegree_18 rfl ?_
              refine wp_iload_n dd_X4_wholeDegree_19 rfl ?_
              refine wp_callV (M' := mm_X4_hasTerm) (As := [zI i, zI j]) (rest := []) dd_X4_wholeDegree_20 lk_X4_66 mV_X4_hasTerm ho.k ho.i ⟨_, _, rfl⟩ rfl (by decide) (by decide) (Nat.le_of_ble_eq_true rfl) rfl (sp_X4_hasTerm  o i j (by first | assumption | omega) (by first | assumption | omega) (by first | assumption | omega) ?_)
              show zw_Wp l mm_X4_wholeDegree (zS L) 23 [some (zR o), some (zI g), some (zI i), some (zI j)] [zI (if mem (o + 2) (5 * i + j) = 0 then 0 else 1)] mem 0 0 Q
              refine wp_if_eq (tgt := 34) dd_X4_wholeDegree_23 (by decide) (fun c23_3 => ?_) (fun c23_3 => ?_)
              · skip
                have hz : mem (o + 2) (5 * i + j) = 0 := by
                  by_cases q : mem (o + 2) (5 * i + j) = 0
                  · exact q
                  · rw [if_neg q] at c23_3; omega
                refine wp_iincC (ls2 := [some (zR o), some (zI g), some (zI i), some (zI (j + 1))]) dd_X4_wholeDegree_34 rfl rfl (by decide) (by omega) rfl ?_
                refine wp_goto (tgt := 12) dd_X4_wholeDegree_37 (by decide) ?_
                refine ih12 g (j + 1) ?_ ?_ ?_ ?_
                · first | omega | assumption | (intros; omega)
                · first | omega | assumption | (intros; omega)
                · rw [show 5 * i + (j + 1) = 5 * i + j + 1 by omega]
                  first
                  | exact zdg_no hP (by assumption)
                  | exact zdg_yes hP (by omega) (by unfold zvv; omega) (by omega) (by assumption)
                · omega
              · skip
                have hz : mem (o + 2) (5 * i + j) ≠ 0 := fun q => c23_3 (by rw [if_pos q])
                refine wp_iload_n dd_X4_wholeDegree_26 rfl ?_
                refine wp_iload_n dd_X4_wholeDegree_27 rfl ?_
                refine wp_iload_n dd_X4_wholeDegree_28 rfl ?_
                refine wp_iaddC dd_X4_wholeDegree_29 (by omega) ?_
                refine wp_callS (M' := mm_J9_max_7cf53) (As := [zI g, zI (i + j)]) (rest := []) dd_X4_wholeDegree_30 lk_X4_70 mS_J9_max_7cf53 rfl (by decide) (by decide) (Nat.le_of_ble_eq_true rfl) rfl (sp_J9_max_7cf53  g (i + j)  ?_)
                show zw_Wp l mm_X4_wholeDegree (zS L) 33 [some (zR o), some (zI g), some (zI i), some (zI j)] [zI (max g (i + j))] mem 0 0 Q
                refine wp_istore_n (ls2 := [some (zR o), some (zI (max g (i + j))), some (zI i), some (zI j)]) dd_X4_wholeDegree_33 rfl (by decide) rfl ?_
                refine wp_iincC (ls2 := [some (zR o), some (zI (max g (i + j))), some (zI i), some (zI (j + 1))]) dd_X4_wholeDegree_34 rfl rfl (by decide) (by omega) rfl ?_
                refine wp_goto (tgt := 12) dd_X4_wholeDegree_37 (by decide) ?_
                refine ih12 (max g (i + j)) (j + 1) ?_ ?_ ?_ ?_
                · first | omega | assumption | (intros; omega)
                · first | omega | assumption | (intros; omega)
                · rw [show 5 * i + (j + 1) = 5 * i + j + 1 by omega]
                  first
                  | exact zdg_no hP (by assumption)
                  | exact zdg_yes hP (by omega) (by unfold zvv; omega) (by omega) (by assumption)
                · omega
        refine lp12 ((5 - 0 : Int)).toNat.succ g 0 ?_ ?_ ?_ ?_
        · first | omega | assumption | (intros; omega)
        · first | omega | assumption | (intros; omega)
        · rw [Int.add_zero]; exact hP
        · omega
  refine lp5 ((5 - 0 : Int)).toNat.succ (-9) 0 ?_ ?_ ?_ ?_
  · first | omega | assumption | (intros; omega)
  · first | omega | assumption | (intros; omega)
  · exact ⟨Or.inl rfl, fun t q1 q2 => by omega⟩
  · omega

set_option maxRecDepth 100000 in
set_option maxHeartbeats 4000000 in
theorem sp_X4_part {l : Launch} {L : Nat} {mem : zMem} {Q : zQ}  (o : Nat) (le : Int) (a : Int) (b : Int) (ho : zP o) (k : Q (some (zI (zpt (mem (o + 2)) le a b))) (zS L) mem) : zw_Ok l mm_X4_part [zR o, zI le, zI a, zI b] (zS L) mem Q := by
  refine zw_okA (fun hA => ?_)
  have rg_le : -2147483648 ≤ le ∧ le < 2147483648 := hA.2.1
  have rg_a : -2147483648 ≤ a ∧ a < 2147483648 := hA.2.2.1
  have rg_b : -2147483648 ≤ b ∧ b < 2147483648 := hA.2.2.2.1
  refine zw_enter (by decide) (Nat.le_of_ble_eq_true rfl) rfl ?_
  show zw_Wp l mm_X4_part (zS L) 0 [some (zR o), some (zI le), some (zI a), some (zI b)] [] mem 0 0 Q
  refine wp_iload_n dd_X4_part_0 rfl ?_
  refine wp_if_lt (tgt := 18) dd_X4_part_1 (by decide) (fun c1_1 => ?_) (fun c1_1 => ?_)
  · skip
    refine wp_iconst dd_X4_part_18 (zr_lit rfl) ?_
    refine wp_ireturn (st := []) dd_X4_part_19 rfl ?_
    refine zq_I ?_ ?_ k
    · unfold zpt; rw [if_neg (by omega)]
    · rfl
  · skip
    refine wp_iload_n dd_X4_part_4 rfl ?_
    refine wp_iconst dd_X4_part_5 (zr_lit rfl) ?_
    refine wp_icmp_gt (tgt := 18) dd_X4_part_6 (by decide) (fun c6_2 => ?_) (fun c6_2 => ?_)
    · skip
      refine wp_iconst dd_X4_part_18 (zr_lit rfl) ?_
      refine wp_ireturn (st := []) dd_X4_part_19 rfl ?_
      refine zq_I ?_ ?_ k
      · unfold zpt; rw [if_neg (by omega)]
      · rfl
    · skip
      refine wp_iload_n dd_X4_part_9 rfl ?_
      refine wp_if_lt (tgt := 18) dd_X4_part_10 (by decide) (fun c10_3 => ?_) (fun c10_3 => ?_)
      · skip
        refine wp_iconst dd_X4_part_18 (zr_lit rfl) ?_
        refine wp_ireturn (st := []) dd_X4_part_19 rfl ?_
        refine zq_I ?_ ?_ k
        · unfold zpt; rw [if_neg (by omega)]
        · rfl
      · skip
        refine wp_iload_n dd_X4_part_13 rfl ?_
        refine wp_iconst dd_X4_part_14 (zr_lit rfl) ?_
        refine wp_icmp_le (tgt := 20) dd_X4_part_15 (by decide) (fun c15_4 => ?_) (fun c15_4 => ?_)
        · skip
          refine wp_iload_n dd_X4_part_20 rfl ?_
          refine wp_if_ne (tgt := 37) dd_X4_part_21 (by decide) (fun c21_5 => ?_) (fun c21_5 => ?_)
          · skip
            refine wp_aload_n dd_X4_part_37 rfl ?_
            refine wp_getR dd_X4_part_38 gf_X4_15 rfl ho.k (by decide) ho.i ho.c ?_
            refine wp_iconst dd_X4_part_41 (zr_lit rfl) ?_
            refine wp_iload_n dd_X4_part_42 rfl ?_
            refine wp_imulC dd_X4_part_43 (by omega) ?_
            refine wp_iload_n dd_X4_part_44 rfl ?_
            refine wp_iaddC dd_X4_part_45 (by omega) ?_
            refine wp_iald dd_X4_part_46 ho.kc ho.ic (by omega) (by omega) ?_
            refine wp_ireturn (st := []) dd_X4_part_47 rfl ?_
            refine zq_I ?_ ?_ k
            · unfold zpt; rw [if_pos (by omega)]; first | rw [if_pos (by omega)] | rw [if_neg (by omega)]
            · rfl
          · skip
            refine wp_aload_n dd_X4_part_24 rfl ?_
            refine wp_getR dd_X4_part_25 gf_X4_15 rfl ho.k (by decide) ho.i ho.c ?_
            refine wp_iconst dd_X4_part_28 (zr_lit rfl) ?_
            refine wp_iload_n dd_X4_part_29 rfl ?_
            refine wp_imulC dd_X4_part_30 (by omega) ?_
            refine wp_iload_n dd_X4_part_31 rfl ?_
            refine wp_iaddC dd_X4_part_32 (by omega) ?_
            refine wp_iald dd_X4_part_33 ho.kc ho.ic (by omega) (by omega) ?_
            refine wp_goto (tgt := 47) dd_X4_part_34 (by decide) ?_
            refine wp_ireturn (st := []) dd_X4_part_47 rfl ?_
            refine zq_I ?_ ?_ k
            · unfold zpt; rw [if_pos (by omega)]; first | rw [if_pos (by omega)] | rw [if_neg (by omega)]
            · rfl
        · skip
          refine wp_iconst dd_X4_part_18 (zr_lit rfl) ?_
          refine wp_ireturn (st := []) dd_X4_part_19 rfl ?_
          refine zq_I ?_ ?_ k
          · unfold zpt; rw [if_neg (by omega)]
          · rfl

