theorem zPI.rg {mem : zMem} {o : Nat} {p kd fg : Int} {t : Int → Int} (h : zPI mem o p kd fg t) (hp : 0 < p) : ∀ x : Int, 0 ≤ x → x < 25 → 0 ≤ mem (o + 2) x ∧ mem (o + 2) x < p := by
  intro x h1 h2
  have e : x = 5 * (x / 5) + x % 5 := by omega
  rw [e, h.2.2.2.2 (x / 5) (x % 5) (by omega) (by omega)]
  exact zcf_rg hp (by omega) (by omega) (fun y q1 q2 => (h.2.2.2.1 y q1 q2).2)
theorem zPI.row {mem : zMem} {o : Nat} {p kd fg : Int} {t : Int → Int} (h : zPI mem o p kd fg t) : ∀ x : Int, 0 ≤ x → x < 25 → mem (o + 2) x = zcf kd fg p t (x / 5) (x % 5) := by
  intro x h1 h2
  have e : x = 5 * (x / 5) + x % 5 := by omega
  have := h.2.2.2.2 (x / 5) (x % 5) (by omega) (by omega)
  rw [← e] at this
  exact this
theorem zPI.keep {mem mem2 : zMem} {o : Nat} {p kd fg : Int} {t : Int → Int} (h : zPI mem o p kd fg t) (h0 : mem2 o = mem o) (h1 : mem2 (o + 1) = mem (o + 1)) (h2 : mem2 (o + 2) = mem (o + 2)) : zPI mem2 o p kd fg t := by
  unfold zPI
  rw [h0, h1, h2]
  exact h
theorem zPI.told {mem : zMem} {o : Nat} {p kd fg : Int} {t u : Int → Int} (h : zPI mem o p kd fg t) (e : ∀ x : Int, 0 ≤ x → x < 25 → t x = u x) : zPI mem o p kd fg u := by
  refine ⟨h.1, h.2.1, h.2.2.1, fun x q1 q2 => ?_, fun i j hi hj => ?_⟩
  · rw [← e x q1 q2]; exact h.2.2.2.1 x q1 q2
  · rw [h.2.2.2.2 i j hi hj]; exact zcf_congr hi hj e
/-- the coefficients of a product: what the first t of the one bring in -/
def zcv (c d : Int → Int) (x y : Int) : Nat → Int
  | 0 => 0
  | t + 1 => zcv c d x y t + c t * (if 0 ≤ x - (t : Int) / 5 ∧ x - (t : Int) / 5 ≤ 4 ∧ 0 ≤ y - (t : Int) % 5 ∧ y - (t : Int) % 5 ≤ 4 then d (5 * (x - (t : Int) / 5) + (y - (t : Int) % 5)) else 0)
theorem zcv_rg {c d : Int → Int} {x y p : Int} (hp : 0 < p ∧ p ≤ 31) (hc : ∀ t : Int, 0 ≤ t → t < 25 → 0 ≤ c t ∧ c t < p) (hd : ∀ t : Int, 0 ≤ t → t < 25 → 0 ≤ d t ∧ d t < p) : ∀ n : Nat, n ≤ 25 → 0 ≤ zcv c d x y n ∧ zcv c d x y n ≤ 961 * n
  | 0, _ => ⟨Int.le_refl 0, Int.le_refl 0⟩
  | n + 1, hn => by
    have ih := zcv_rg (x := x) (y := y) hp hc hd n (by omega)
    unfold zcv
    have h1 := hc n (by omega) (by omega)
    by_cases q : 0 ≤ x - (n : Int) / 5 ∧ x - (n : Int) / 5 ≤ 4 ∧ 0 ≤ y - (n : Int) % 5 ∧ y - (n : Int) % 5 ≤ 4
    · rw [if_pos q]
      have h2 := hd (5 * (x - (n : Int) / 5) + (y - (n : Int) % 5)) (by omega) (by omega)
      have h3 := zmul_rg (a := c n) (b := d (5 * (x - (n : Int) / 5) + (y - (n : Int) % 5))) (A := 31) (B := 31) (by omega) (by omega) (by omega) (by omega)
      omega
    · rw [if_neg q, Int.mul_zero]
      omega

set_option maxRecDepth 100000 in
set_option maxHeartbeats 4000000 in
theorem sp_X4_refresh {l : Launch} {L : Nat} {mem : zMem} {Q : zQ}  (o : Nat) (p : Int) (ho : zP o) (hp : 2 ≤ p ∧ p ≤ 31) (hkd : 0 ≤ mem o 0 ∧ mem o 0 ≤ 5) (hfg : 0 ≤ mem o 1 ∧ mem o 1 ≤ 9) (ht : ∀ x : Int, 0 ≤ x → x < 25 → 0 ≤ mem (o + 1) x ∧ mem (o + 1) x < p) (k : ∀ (mem2 : zMem), (zPI mem2 o p (mem o 0) (mem o 1) (mem (o + 1))) → (∀ a : Nat, a ≠ o + 2 → mem2 a = mem a) → Q none (zS L) mem2) : zw_Ok l mm_X4_refresh [zR o, zI p] (zS L) mem Q := by
  refine zw_okA (fun hA => ?_)
  have rg_p : -2147483648 ≤ p ∧ p < 2147483648 := hA.2.1
  refine zw_enter (by decide) (Nat.le_of_ble_eq_true rfl) rfl ?_
  show zw_Wp l mm_X4_refresh (zS L) 0 [some (zR o), some (zI p), none, none] [] mem 0 0 Q
  refine wp_iconst dd_X4_refresh_0 (zr_lit rfl) ?_
  refine wp_istore_n (ls2 := [some (zR o), some (zI p), some (zI 0), none]) dd_X4_refresh_1 rfl (by decide) rfl ?_
  have lp2 : ∀ (nf : Nat) (i : Int) (mm : zMem), (0 ≤ i) → (i ≤ 5) → (∀ a b : Int, 0 ≤ a → 0 ≤ b ∧ b ≤ 4 → a < i → mm (o + 2) (5 * a + b) = zbk (mem o 0) (mem o 1) p (mem (o + 1)) a b) → (∀ a : Nat, a ≠ o + 2 → mm a = mem a) → (5 - i) < (nf : Int) → zw_Wp l mm_X4_refresh (zS L) 2 [some (zR o), some (zI p), some (zI i), none] [] mm 0 0 Q := by
    intro nf
    induction nf with
    | zero =>
      intro i mm h0 h1 h2 h3 hmu
      exfalso; omega
    | succ nf ih2 =>
      intro i mm h0 h1 h2 h3 hmu
      refine wp_iload_n dd_X4_refresh_2 rfl ?_
      refine wp_iconst dd_X4_refresh_3 (zr_lit rfl) ?_
      refine wp_icmp_ge (tgt := 43) dd_X4_refresh_4 (by decide) (fun c4_1 => ?_) (fun c4_1 => ?_)
      · skip
        have hm0 : mm o = mem o := h3 _ (by omega)
        have hm1 : mm (o + 1) = mem (o + 1) := h3 _ (by omega)
        have hb : ∀ a b : Int, 0 ≤ a ∧ a ≤ 4 → 0 ≤ b ∧ b ≤ 4 → mm (o + 2) (5 * a + b) = zbk (mem o 0) (mem o 1) p (mem (o + 1)) a b := fun a b q1 q2 => h2 a b q1.1 q2 (by omega)
        have hbr : ∀ t : Int, 0 ≤ t → t < 25 → 0 ≤ mm (o + 2) t ∧ mm (o + 2) t < p := by
          intro t q1 q2
          have e : t = 5 * (t / 5) + t % 5 := by omega
          rw [e, hb (t / 5) (t % 5) (by omega) (by omega)]
          exact zbk_rg (by omega) (by omega) (by omega) ht
        have hm00 : mm o 0 = mem o 0 := by rw [hm0]
        refine wp_aload_n dd_X4_refresh_43 rfl ?_
        refine wp_getZ 0 rfl dd_X4_refresh_44 gf_X4_18 rfl ho.k (by decide) ho.i ?_
        refine wp_iconst dd_X4_refresh_47 (zr_lit rfl) ?_
        refine wp_icmp_ne (tgt := 56) dd_X4_refresh_48 (by decide) (fun c48_2 => ?_) (fun c48_2 => ?_)
        · skip
          refine wp_return (st := []) dd_X4_refresh_56 rfl ?_
          refine k mm ⟨?_, ?_, ⟨hkd, hfg⟩, fun x q1 q2 => ⟨?_, ht x q1 q2⟩, fun i j hi hj => ?_⟩ h3
          · rw [hm0]
          · rw [hm0]
          · rw [hm1]
          · rw [hb i j hi hj]
            unfold zcf
            rw [if_neg (by omega)]
        · skip
          refine wp_aload_n dd_X4_refresh_51 rfl ?_
          refine wp_iload_n dd_X4_refresh_52 rfl ?_
          refine wp_callV (M' := mm_X4_shift) (As := [zI p]) (rest := []) dd_X4_refresh_53 lk_X4_51 mV_X4_shift ho.k ho.i ⟨_, _, rfl⟩ rfl (by decide) (by decide) (Nat.le_of_ble_eq_true rfl) rfl (sp_X4_shift  o p (by first | assumption | omega) (by first | assumption | omega) (by rw [hm0]; exact hfg) hbr (fun me hf9 hr9 => ?_))
          show zw_Wp l mm_X4_refresh (zS L) 56 [some (zR o), some (zI p), some (zI i), none] [] me 0 0 Q
          refine wp_return (st := []) dd_X4_refresh_56 rfl ?_
          refine k me ⟨?_, ?_, ⟨hkd, hfg⟩, fun x q1 q2 => ⟨?_, ht x q1 q2⟩, fun i j hi hj => ?_⟩ (fun a ha => (hr9 a ha).trans (h3 a ha))
          · rw [hr9 o (by omega), hm0]
          · rw [hr9 o (by omega), hm0]
          · rw [hr9 (o + 1) (by omega), hm1]
          · rw [hf9 i j hi hj, hm0]
            unfold zcf
            rw [if_pos (by omega)]
            refine zsf_congr (fun k0 q1 q2 => ?_)
            rw [hb k0 j ⟨q1, q2⟩ hj]
            unfold zbk
            rw [if_neg (by omega), if_neg (by omega), if_neg (by omega), if_neg (by omega)]
      · skip
        refine wp_iconst dd_X4_refresh_7 (zr_lit rfl) ?_
        refine wp_istore_n (ls2 := [some (zR o), some (zI p), some (zI i), some (zI 0)]) dd_X4_refresh_8 rfl (by decide) rfl ?_
        have lp9 : ∀ (nf : Nat) (j : Int) (mm : zMem), (0 ≤ j) → (j ≤ 5) → (∀ a b : Int, 0 ≤ a → 0 ≤ b ∧ b ≤ 4 → (a < i ∨ a = i ∧ b < j) → mm (o + 2) (5 * a + b) = zbk (mem o 0) (mem o 1) p (mem (o + 1)) a b) → (∀ a : Nat, a ≠ o + 2 → mm a = mem a) → (5 - j) < (nf : Int) → zw_Wp l mm_X4_refresh (zS L) 9 [some (zR o), some (zI p), some (zI i), some (zI j)] [] mm 0 0 Q := by
          intro nf
          induction nf with
          | zero =>
            intro j mm h4 h5 h2 h3 hmu
            exfalso; omega
          | succ nf ih9 =>
            intro j mm h4 h5 h2 h3 hmu
            have hm0 : mm o = mem o := h3 _ (by omega)
            have hm1 : mm (o + 1) = mem (o + 1) := h3 _ (by omega)
            refine wp_iload_n dd_X4_refresh_9 rfl ?_
            refine wp_iconst dd_X4_refresh_10 (zr_lit rfl) ?_
            refine wp_icmp_ge (tgt := 37) dd_X4_refresh_11 (by decide) (fun c11_3 => ?_) (fun c11_3 => ?_)
            · skip
              refine wp_iincC (ls2 := [some (zR o), some (zI p), some (zI (i + 1)), some (zI j)]) dd_X4_refresh_37 rfl rfl (by decide) (by omega) rfl ?_
              refine wp_goto (tgt := 2) dd_X4_refresh_40 (by decide) ?_
              refine wp_ls (zw_sub_of (a := [some (zR o), some (zI p), some (zI (i + 1)), none]) (And.intro rfl (And.intro rfl (And.intro rfl (trivial))))) ?_
              refine ih2 (i + 1) mm ?_ ?_ ?_ ?_ ?_
              · first | omega | assumption | (intros; omega)
              · first | omega | assumption | (intros; omega)
              · intro a b q1 q2 q3; exact h2 a b q1 q2 (by omega)
              · first | omega | assumption | (intros; omega)
              · omega
            · skip
              refine wp_aload_n dd_X4_refresh_14 rfl ?_
              refine wp_getR dd_X4_refresh_15 gf_X4_15 rfl ho.k (by decide) ho.i ho.c ?_
              refine wp_iconst dd_X4_refresh_18 (zr_lit rfl) ?_
              refine wp_iload_n dd_X4_refresh_19 rfl ?_
              refine wp_imulC dd_X4_refresh_20 (by omega) ?_
              refine wp_iload_n dd_X4_refresh_21 rfl ?_
              refine wp_iaddC dd_X4_refresh_22 (by omega) ?_
              refine wp_aload_n dd_X4_refresh_23 rfl ?_
              refine wp_iload_n dd_X4_refresh_24 rfl ?_
              refine wp_iload_n dd_X4_refresh_25 rfl ?_
              refine wp_iload_n dd_X4_refresh_26 rfl ?_
              refine wp_callV (M' := mm_X4_byKind) (As := [zI i, zI j, zI p]) (rest := [zI ((5 * i) + j), zR (o + 2)]) dd_X4_refresh_27 lk_X4_47 mV_X4_byKind ho.k ho.i ⟨_, _, rfl⟩ rfl (by decide) (by decide) (Nat.le_of_ble_eq_true rfl) rfl (sp_X4_byKind  o i j p (by first | assumption | omega) (by first | assumption | omega) (by first | assumption | omega) (by first | assumption | omega) (by rw [hm0]; exact hfg) (by rw [hm1]; exact ht) ?_)
              show zw_Wp l mm_X4_refresh (zS L) 30 [some (zR o), some (zI p), some (zI i), some (zI j)] [zI (zbk (mm o 0) (mm o 1) p (mm (o + 1)) i j), zI ((5 * i) + j), zR (o + 2)] mm 0 0 Q
              refine wp_iast dd_X4_refresh_30 ho.kc ho.ic (by omega) (by omega) ?_
              refine wp_iincC (ls2 := [some (zR o), some (zI p), some (zI i), some (zI (j + 1))]) dd_X4_refresh_31 rfl rfl (by decide) (by omega) rfl ?_
              refine wp_goto (tgt := 9) dd_X4_refresh_34 (by decide) ?_
              refine ih9 (j + 1) (zu mm (o + 2) ((5 * i) + j) (zbk (mm o 0) (mm o 1) p (mm (o + 1)) i j)) ?_ ?_ ?_ ?_ ?_
              · first | omega | assumption | (intros; omega)
              · first | omega | assumption | (intros; omega)
              · intro a b q1 q2 q3
                by_cases hb : a = i ∧ b = j
                · obtain ⟨rfl, rfl⟩ := hb
                  rw [zu_s, hm0, hm1]
                · rw [zu_n (Or.inr (by omega))]; exact h2 a b q1 q2 (by omega)
              · intro a ha; rw [zu_row ha]; exact h3 a ha
              · omega
        refine lp9 ((5 - 0 : Int)).toNat.succ 0 mm ?_ ?_ ?_ ?_ ?_
        · first | omega | assumption | (intros; omega)
        · first | omega | assumption | (intros; omega)
        · intro a b q1 q2 q3; exact h2 a b q1 q2 (by omega)
        · first | omega | assumption | (intros; omega)
        · omega
  refine lp2 ((5 - 0 : Int)).toNat.succ 0 mem ?_ ?_ ?_ ?_ ?_
  · first | omega | assumption | (intros; omega)
  · first | omega | assumption | (intros; omega)
  · intros; omega
  · intros; rfl
  · omega

set_option maxRecDepth 100000 in
set_option maxHeartbeats 4000000 in
theorem sp_X4_become {l : Launch} {L : Nat} {mem : zMem} {Q : zQ}  (o : Nat) (kd : Int) (fg : Int) (p : Int) (ho : zP o) (hp : 2 ≤ p ∧ p ≤ 31) (hkd : 0 ≤ kd ∧ kd ≤ 5) (hfg : 0 ≤ fg ∧ fg ≤ 9) (ht : ∀ x : Int, 0 ≤ x → x < 25 → 0 ≤ mem (o + 1) x ∧ mem (o + 1) x < p) (k : ∀ (mem2 : zMem), (zPI mem2 o p kd fg (mem (o + 1))) → (∀ a : Nat, a ≠ o → a ≠ o + 2 → mem2 a = mem a) → Q none (zS L) mem2) : zw_Ok l mm_X4_become [zR o, zI kd, zI fg, zI p] (zS L) mem Q := by
  refine zw_okA (fun hA => ?_)
  have rg_kd : -2147483648 ≤ kd ∧ kd < 2147483648 := hA.2.1
  have rg_fg : -2147483648 ≤ fg ∧ fg < 2147483648 := hA.2.2.1
  have rg_p : -2147483648 ≤ p ∧ p < 2147483648 := hA.2.2.2.1
  refine zw_enter (by decide) (Nat.le_of_ble_eq_true rfl) rfl ?_
  show zw_Wp l mm_X4_become (zS L) 0 [some (zR o), some (zI kd), some (zI fg), some (zI p)] [] mem 0 0 Q
  refine wp_aload_n dd_X4_become_0 rfl ?_
  refine wp_iload_n dd_X4_become_1 rfl ?_
  refine wp_putzI 0 rfl dd_X4_become_2 pf_X4_18 rfl ho.k (by decide) ho.i ?_
  refine wp_aload_n dd_X4_become_5 rfl ?_
  refine wp_iload_n dd_X4_become_6 rfl ?_
  refine wp_putzI 1 rfl dd_X4_become_7 pf_X4_22 rfl ho.k (by decide) ho.i ?_
  have g0 : (zu (zu mem o 0 kd) o 1 fg) o 0 = kd := by rw [zu_n (Or.inr (by omega)), zu_s]
  have g1 : (zu (zu mem o 0 kd) o 1 fg) o 1 = fg := zu_s
  have g2 : (zu (zu mem o 0 kd) o 1 fg) (o + 1) = mem (o + 1) := by rw [zu_row (by omega), zu_row (by omega)]
  refine wp_aload_n dd_X4_become_10 rfl ?_
  refine wp_iload_n dd_X4_become_11 rfl ?_
  refine wp_callV (M' := mm_X4_refresh) (As := [zI p]) (rest := []) dd_X4_become_12 lk_X4_37 mV_X4_refresh ho.k ho.i ⟨_, _, rfl⟩ rfl (by decide) (by decide) (Nat.le_of_ble_eq_true rfl) rfl (sp_X4_refresh  o p (by first | assumption | omega) (by first | assumption | omega) (by rw [g0]; exact hkd) (by rw [g1]; exact hfg) (by rw [g2]; exact ht) (fun me hf9 hr9 => ?_))
  show zw_Wp l mm_X4_become (zS L) 15 [some (zR o), some (zI kd), some (zI fg), some (zI p)] [] me 0 0 Q
  refine wp_return (st := []) dd_X4_become_15 rfl ?_
  rw [g0, g1, g2] at hf9
  exact k me hf9 (fun a h1 h2 => by rw [hr9 a h2, zu_row h1, zu_row h1])

set_option maxRecDepth 100000 in
set_option maxHeartbeats 4000000 in
theorem sp_X4_tell {l : Launch} {L : Nat} {mem : zMem} {Q : zQ}  (o : Nat) (x : Int) (v : Int) (p : Int) (ho : zP o) (hp : 2 ≤ p ∧ p ≤ 31) (hx : 0 ≤ x ∧ x < 25) (hkd : 0 ≤ mem o 0 ∧ mem o 0 ≤ 5) (hfg : 0 ≤ mem o 1 ∧ mem o 1 ≤ 9) (ht : ∀ x : Int, 0 ≤ x → x < 25 → 0 ≤ mem (o + 1) x ∧ mem (o + 1) x < p) (k : ∀ (mem2 : zMem), (zPI mem2 o p (mem o 0) (mem o 1) (fun y => if y = x then v % p else mem (o + 1) y)) → (∀ a : Nat, a ≠ o + 1 → a ≠ o + 2 → mem2 a = mem a) → Q none (zS L) mem2) : zw_Ok l mm_X4_tell [zR o, zI x, zI v, zI p] (zS L) mem Q := by
  refine zw_okA (fun hA => ?_)
  have rg_x : -2147483648 ≤ x ∧ x < 2147483648 := hA.2.1
  have rg_v : -2147483648 ≤ v ∧ v < 2147483648 := hA.2.2.1
  have rg_p : -2147483648 ≤ p ∧ p < 2147483648 := hA.2.2.2.1
  refine zw_enter (by decide) (Nat.le_of_ble_eq_true rfl) rfl ?_
  show zw_Wp l mm_X4_tell (zS L) 0 [some (zR o), some (zI x), some (zI v), some (zI p)] [] mem 0 0 Q
  refine wp_iload_n dd_X4_tell_0 rfl ?_
  refine wp_if_lt (tgt := 29) dd_X4_tell_1 (by decide) (fun c1_1 => ?_) (fun c1_1 => ?_)
  · skip
    exfalso; omega
  · skip
    refine wp_iload_n dd_X4_tell_4 rfl ?_
    refine wp_aload_n dd_X4_tell_5 rfl ?_
    refine wp_getR dd_X4_tell_6 gf_X4_9 rfl ho.k (by decide) ho.i ho.t ?_
    refine wp_alen dd_X4_tell_9 ho.kt ho.it (by decide) ?_
    show zw_Wp l mm_X4_tell (zS L) 10 [some (zR o), some (zI x), some (zI v), some (zI p)] [zI 25, zI x] mem 0 0 Q
    refine wp_icmp_ge (tgt := 29) dd_X4_tell_10 (by decide) (fun c10_2 => ?_) (fun c10_2 => ?_)
    · skip
      exfalso; omega
    · skip
      refine wp_aload_n dd_X4_tell_13 rfl ?_
      refine wp_getR dd_X4_tell_14 gf_X4_9 rfl ho.k (by decide) ho.i ho.t ?_
      refine wp_iload_n dd_X4_tell_17 rfl ?_
      refine wp_iload_n dd_X4_tell_18 rfl ?_
      refine wp_iload_n dd_X4_tell_19 rfl ?_
      refine wp_callS (M' := mm_J9_floorMod_7cf53) (As := [zI v, zI p]) (rest := [zI x, zR (o + 1)]) dd_X4_tell_20 lk_X4_41 mS_J9_floorMod_7cf53 rfl (by decide) (by decide) (Nat.le_of_ble_eq_true rfl) rfl (sp_J9_floorMod_7cf53  v p (by first | assumption | omega) ?_)
      show zw_Wp l mm_X4_tell (zS L) 23 [some (zR o), some (zI x), some (zI v), some (zI p)] [zI (v % p), zI x, zR (o + 1)] mem 0 0 Q
      refine wp_iast dd_X4_tell_23 ho.kt ho.it (by omega) (by omega) ?_
      have hvp := zm_rg (a := v) (p := p) (by omega)
      have g0 : (zu mem (o + 1) x (v % p)) o = mem o := zu_row (by omega)
      have g2 : ∀ y : Int, (zu mem (o + 1) x (v % p)) (o + 1) y = if y = x then v % p else mem (o + 1) y := by
        intro y
        by_cases hy : y = x
        · subst hy; rw [zu_s, if_pos rfl]
        · rw [zu_n (Or.inr hy), if_neg hy]
      refine wp_aload_n dd_X4_tell_24 rfl ?_
      refine wp_iload_n dd_X4_tell_25 rfl ?_
      refine wp_callV (M' := mm_X4_refresh) (As := [zI p]) (rest := []) dd_X4_tell_26 lk_X4_37 mV_X4_refresh ho.k ho.i ⟨_, _, rfl⟩ rfl (by decide) (by decide) (Nat.le_of_ble_eq_true rfl) rfl (sp_X4_refresh  o p (by first | assumption | omega) (by first | assumption | omega) (by rw [g0]; exact hkd) (by rw [g0]; exact hfg) (by intro y q1 q2; rw [g2 y]; split; exact hvp; exact ht y q1 q2) (fun me hf9 hr9 => ?_))
      show zw_Wp l mm_X4_tell (zS L) 29 [some (zR o), some (zI x), some (zI v), some (zI p)] [] me 0 0 Q
      refine wp_return (st := []) dd_X4_tell_29 rfl ?_
      rw [g0] at hf9
      exact k me (hf9.told (fun y _ _ => g2 y)) (fun a h1 h2 => by rw [hr9 a h2, zu_row h1])

set_option maxRecDepth 100000 in
set_option maxHeartbeats 4000000 in
theorem sp_X4_reduceBy {l : Launch} {L : Nat} {mem : zMem} {Q : zQ}  (o : Nat) (p : Int) (ho : zP o) (hp : 2 ≤ p ∧ p ≤ 31) (hkd : 0 ≤ mem o 0 ∧ mem o 0 ≤ 5) (hfg : 0 ≤ mem o 1 ∧ mem o 1 ≤ 9) (k : ∀ (mem2 : zMem), (zPI mem2 o p (mem o 0) (mem o 1) (fun y => mem (o + 1) y % p)) → (∀ a : Nat, a ≠ o + 1 → a ≠ o + 2 → mem2 a = mem a) → Q none (zS L) mem2) : zw_Ok l mm_X4_reduceBy [zR o, zI p] (zS L) mem Q := by
  refine zw_okA (fun hA => ?_)
  have rg_p : -2147483648 ≤ p ∧ p < 2147483648 := hA.2.1
  refine zw_enter (by decide) (Nat.le_of_ble_eq_true rfl) rfl ?_
  show zw_Wp l mm_X4_reduceBy (zS L) 0 [some (zR o), some (zI p), none] [] mem 0 0 Q
  refine wp_iconst dd_X4_reduceBy_0 (zr_lit rfl) ?_
  refine wp_istore_n (ls2 := [some (zR o), some (zI p), some (zI 0)]) dd_X4_reduceBy_1 rfl (by decide) rfl ?_
  have lp2 : ∀ (nf : Nat) (i : Int) (mm : zMem), (0 ≤ i) → (i ≤ 25) → (∀ y : Int, 0 ≤ y → mm (o + 1) y = if y < i then mem (o + 1) y % p else mem (o + 1) y) → (∀ a : Nat, a ≠ o + 1 → mm a = mem a) → (25 - i) < (nf : Int) → zw_Wp l mm_X4_reduceBy (zS L) 2 [some (zR o), some (zI p), some (zI i)] [] mm 0 0 Q := by
    intro nf
    induction nf with
    | zero =>
      intro i mm h0 h1 h2 h3 hmu
      exfalso; omega
    | succ nf ih2 =>
      intro i mm h0 h1 h2 h3 hmu
      have hm0 : mm o = mem o := h3 _ (by omega)
      refine wp_iload_n dd_X4_reduceBy_2 rfl ?_
      refine wp_aload_n dd_X4_reduceBy_3 rfl ?_
      refine wp_getR dd_X4_reduceBy_4 gf_X4_9 rfl ho.k (by decide) ho.i ho.t ?_
      refine wp_alen dd_X4_reduceBy_7 ho.kt ho.it (by decide) ?_
      show zw_Wp l mm_X4_reduceBy (zS L) 8 [some (zR o), some (zI p), some (zI i)] [zI 25, zI i] mm 0 0 Q
      refine wp_icmp_ge (tgt := 33) dd_X4_reduceBy_8 (by decide) (fun c8_1 => ?_) (fun c8_1 => ?_)
      · skip
        have g2 : ∀ y : Int, 0 ≤ y → y < 25 → mm (o + 1) y = mem (o + 1) y % p := fun y q1 q2 => by rw [h2 y q1, if_pos (by omega)]
        refine wp_aload_n dd_X4_reduceBy_33 rfl ?_
        refine wp_iload_n dd_X4_reduceBy_34 rfl ?_
        refine wp_callV (M' := mm_X4_refresh) (As := [zI p]) (rest := []) dd_X4_reduceBy_35 lk_X4_37 mV_X4_refresh ho.k ho.i ⟨_, _, rfl⟩ rfl (by decide) (by decide) (Nat.le_of_ble_eq_true rfl) rfl (sp_X4_refresh  o p (by first | assumption | omega) (by first | assumption | omega) (by rw [hm0]; exact hkd) (by rw [hm0]; exact hfg) (by intro y q1 q2; rw [g2 y q1 q2]; exact zm_rg (by omega)) (fun me hf9 hr9 => ?_))
        show zw_Wp l mm_X4_reduceBy (zS L) 38 [some (zR o), some (zI p), some (zI i)] [] me 0 0 Q
        refine wp_return (st := []) dd_X4_reduceBy_38 rfl ?_
        rw [hm0] at hf9
        exact k me (hf9.told g2) (fun a h1 h2 => by rw [hr9 a h2, h3 a h1])
      · skip
        refine wp_aload_n dd_X4_reduceBy_11 rfl ?_
        refine wp_getR dd_X4_reduceBy_12 gf_X4_9 rfl ho.k (by decide) ho.i ho.t ?_
        refine wp_iload_n dd_X4_reduceBy_15 rfl ?_
        refine wp_aload_n dd_X4_reduceBy_16 rfl ?_
        refine wp_getR dd_X4_reduceBy_17 gf_X4_9 rfl ho.k (by decide) ho.i ho.t ?_
        refine wp_iload_n dd_X4_reduceBy_20 rfl ?_
        refine wp_iald dd_X4_reduceBy_21 ho.kt ho.it (by omega) (by omega) ?_
        refine wp_iload_n dd_X4_reduceBy_22 rfl ?_
        refine wp_callS (M' := mm_J9_floorMod_7cf53) (As := [zI (mm (o + 1) i), zI p]) (rest := [zI i, zR (o + 1)]) dd_X4_reduceBy_23 lk_X4_41 mS_J9_floorMod_7cf53 rfl (by decide) (by decide) (Nat.le_of_ble_eq_true rfl) rfl (sp_J9_floorMod_7cf53  (mm (o + 1) i) p (by first | assumption | omega) ?_)
        show zw_Wp l mm_X4_reduceBy (zS L) 26 [some (zR o), some (zI p), some (zI i)] [zI ((mm (o + 1) i) % p), zI i, zR (o + 1)] mm 0 0 Q
        refine wp_iast dd_X4_reduceBy_26 ho.kt ho.it (by omega) (by omega) ?_
        refine wp_iincC (ls2 := [some (zR o), some (zI p), some (zI (i + 1))]) dd_X4_reduceBy_27 rfl rfl (by decide) (by omega) rfl ?_
        refine wp_goto (tgt := 2) dd_X4_reduceBy_30 (by decide) ?_
        refine ih2 (i + 1) (zu mm (o + 1) i ((mm (o + 1) i) % p)) ?_ ?_ ?_ ?_ ?_
        · first | omega | assumption | (intros; omega)
        · first | omega | assumption | (intros; omega)
        · intro y q
          by_cases hy : y = i
          · subst hy; rw [zu_s, if_pos (by omega), h2 y q, if_neg (by omega)]
          · rw [zu_n (Or.inr hy), h2 y q]
            by_cases hl : y < i
            · rw [if_pos hl, if_pos (by omega)]
            · rw [if_neg hl, if_neg (by omega)]
        · intro a ha; rw [zu_row ha]; exact h3 a ha
        · omega
  refine lp2 ((25 - 0 : Int)).toNat.succ 0 mem ?_ ?_ ?_ ?_ ?_
  · first | omega | assumption | (intros; omega)
  · first | omega | assumption | (intros; omega)
  · intro y q; rw [if_neg (by omega)]
  · intros; rfl
  · omega

theorem zP.apart {o r : Nat} (h : zP o) (k : zP r) (hn : o ≠ r) : o + 3 ≤ r ∨ r + 3 ≤ o := by
  obtain ⟨a, ha, h⟩ := h
  obtain ⟨b, hb, k⟩ := k
  omega
set_option maxRecDepth 100000 in
set_option maxHeartbeats 4000000 in
theorem sp_X4_copyFrom {l : Launch} {L : Nat} {mem : zMem} {Q : zQ}  (o : Nat) (r : Nat) (ho : zP o) (ho2 : zP r) (hor : o ≠ r) (k : ∀ (mem2 : zMem), (mem2 o 0 = mem r 0 ∧ mem2 o 1 = mem r 1 ∧ ∀ x : Int, 0 ≤ x → x < 25 → mem2 (o + 1) x = mem (r + 1) x ∧ mem2 (o + 2) x = mem (r + 2) x) → (∀ a : Nat, a ≠ o → a ≠ o + 1 → a ≠ o + 2 → mem2 a = mem a) → Q none (zS L) mem2) : zw_Ok l mm_X4_copyFrom [zR o, zR r] (zS L) mem Q := by
  refine zw_enter (by decide) (Nat.le_of_ble_eq_true rfl) rfl ?_
  show zw_Wp l mm_X4_copyFrom (zS L) 0 [some (zR o), some (zR r)] [] mem 0 0 Q
  refine wp_aload_n dd_X4_copyFrom_0 rfl ?_
  refine wp_aload_n dd_X4_copyFrom_1 rfl ?_
  refine wp_getZ 0 rfl dd_X4_copyFrom_2 gf_X4_18 rfl ho2.k (by decide) ho2.i ?_
  refine wp_putzI 0 rfl dd_X4_copyFrom_5 pf_X4_18 rfl ho.k (by decide) ho.i ?_
  refine wp_aload_n dd_X4_copyFrom_8 rfl ?_
  refine wp_aload_n dd_X4_copyFrom_9 rfl ?_
  refine wp_getZ 1 rfl dd_X4_copyFrom_10 gf_X4_22 rfl ho2.k (by decide) ho2.i ?_
  refine wp_putzI 1 rfl dd_X4_copyFrom_13 pf_X4_22 rfl ho.k (by decide) ho.i ?_
  refine wp_aload_n dd_X4_copyFrom_16 rfl ?_
  refine wp_getR dd_X4_copyFrom_17 gf_X4_9 rfl ho2.k (by decide) ho2.i ho2.t ?_
  refine wp_iconst dd_X4_copyFrom_20 (zr_lit rfl) ?_
  refine wp_aload_n dd_X4_copyFrom_21 rfl ?_
  refine wp_getR dd_X4_copyFrom_22 gf_X4_9 rfl ho.k (by decide) ho.i ho.t ?_
  refine wp_iconst dd_X4_copyFrom_25 (zr_lit rfl) ?_
  refine wp_aload_n dd_X4_copyFrom_26 rfl ?_
  refine wp_getR dd_X4_copyFrom_27 gf_X4_9 rfl ho.k (by decide) ho.i ho.t ?_
  refine wp_alen dd_X4_copyFrom_30 ho.kt ho.it (by decide) ?_
  show zw_Wp l mm_X4_copyFrom (zS L) 31 [some (zR o), some (zR r)] [zI 25, zI 0, zR (o + 1), zI 0, zR (r + 1)] (zu (zu mem o 0 (mem r 0)) o 1 ((zu mem o 0 (mem r 0)) r 1)) 0 0 Q
  refine wp_copy dd_X4_copyFrom_31 lk_X4_25 ho2.kt ho2.it ho.kt ho.it (by omega) (by omega) (by omega) (by omega) (by omega) (by decide) (by decide) ?_
  refine wp_aload_n dd_X4_copyFrom_34 rfl ?_
  refine wp_getR dd_X4_copyFrom_35 gf_X4_15 rfl ho2.k (by decide) ho2.i ho2.c ?_
  refine wp_iconst dd_X4_copyFrom_38 (zr_lit rfl) ?_
  refine wp_aload_n dd_X4_copyFrom_39 rfl ?_
  refine wp_getR dd_X4_copyFrom_40 gf_X4_15 rfl ho.k (by decide) ho.i ho.c ?_
  refine wp_iconst dd_X4_copyFrom_43 (zr_lit rfl) ?_
  refine wp_aload_n dd_X4_copyFrom_44 rfl ?_
  refine wp_getR dd_X4_copyFrom_45 gf_X4_15 rfl ho.k (by decide) ho.i ho.c ?_
  refine wp_alen dd_X4_copyFrom_48 ho.kc ho.ic (by decide) ?_
  show zw_Wp l mm_X4_copyFrom (zS L) 49 [some (zR o), some (zR r)] [zI 25, zI 0, zR (o + 2), zI 0, zR (r + 2)] (zcp (zu (zu mem o 0 (mem r 0)) o 1 ((zu mem o 0 (mem r 0)) r 1)) (r + 1) 0 (o + 1) 0 25) 0 0 Q
  refine wp_copy dd_X4_copyFrom_49 lk_X4_25 ho2.kc ho2.ic ho.kc ho.ic (by omega) (by omega) (by omega) (by omega) (by omega) (by decide) (by decide) ?_
  refine wp_return (st := []) dd_X4_copyFrom_52 rfl ?_
  have hd := zP.apart ho ho2 hor
  refine k _ ⟨?_, ?_, fun x q1 q2 => ⟨?_, ?_⟩⟩ (fun a h1 h2 h3 => ?_)
  · rw [zcp_row (by omega), zcp_row (by omega), zu_n (Or.inr (by omega)), zu_s]
  · rw [zcp_row (by omega), zcp_row (by omega), zu_s, zu_row (by omega)]
  · rw [zcp_row (by omega), zcp_in q1 (by omega), zu_row (by omega), zu_row (by omega), show (0 : Int) + (x - 0) = x by omega]
  · rw [zcp_in q1 (by omega), zcp_row (by omega), zu_row (by omega), zu_row (by omega), show (0 : Int) + (x - 0) = x by omega]
  · rw [zcp_row h3, zcp_row h2, zu_row h1, zu_row h1]

set_option maxRecDepth 100000 in
set_option maxHeartbeats 4000000 in
theorem sp_X4_clear {l : Launch} {L : Nat} {mem : zMem} {Q : zQ}  (o : Nat) (ho : zP o) (k : ∀ (mem2 : zMem), (mem2 o 0 = 0 ∧ mem2 o 1 = 0 ∧ ∀ x : Int, 0 ≤ x → x < 25 → mem2 (o + 1) x = 0 ∧ mem2 (o + 2) x = 0) → (∀ a : Nat, a ≠ o → a ≠ o + 1 → a ≠ o + 2 → mem2 a = mem a) → Q none (zS L) mem2) : zw_Ok l mm_X4_clear [zR o] (zS L) mem Q := by
  refine zw_enter (by decide) (Nat.le_of_ble_eq_true rfl) rfl ?_
  show zw_Wp l mm_X4_clear (zS L) 0 [some (zR o)] [] mem 0 0 Q
  refine wp_aload_n dd_X4_clear_0 rfl ?_
  refine wp_iconst dd_X4_clear_1 (zr_lit rfl) ?_
  refine wp_putzI 0 rfl dd_X4_clear_2 pf_X4_18 rfl ho.k (by decide) ho.i ?_
  refine wp_aload_n dd_X4_clear_5 rfl ?_
  refine wp_iconst dd_X4_clear_6 (zr_lit rfl) ?_
  refine wp_putzI 1 rfl dd_X4_clear_7 pf_X4_22 rfl ho.k (by decide) ho.i ?_
  refine wp_aload_n dd_X4_clear_10 rfl ?_
  refine wp_getR dd_X4_clear_11 gf_X4_9 rfl ho.k (by decide) ho.i ho.t ?_
  refine wp_iconst dd_X4_clear_14 (zr_lit rfl) ?_
  refine wp_callS (M' := mm_J7_fill_53178) (As := [zR (o + 1), zI 0]) (rest := []) dd_X4_clear_15 lk_X4_31 mS_J7_fill_53178 rfl (by decide) (by decide) (Nat.le_of_ble_eq_true rfl) rfl (sp_J7_fill_53178  (o + 1) 0 ho.kt ho.it (by decide) (fun ma f1 r1 => ?_))
  show zw_Wp l mm_X4_clear (zS L) 18 [some (zR o)] [] ma 0 0 Q
  refine wp_aload_n dd_X4_clear_18 rfl ?_
  refine wp_getR dd_X4_clear_19 gf_X4_15 rfl ho.k (by decide) ho.i ho.c ?_
  refine wp_iconst dd_X4_clear_22 (zr_lit rfl) ?_
  refine wp_callS (M' := mm_J7_fill_53178) (As := [zR (o + 2), zI 0]) (rest := []) dd_X4_clear_23 lk_X4_31 mS_J7_fill_53178 rfl (by decide) (by decide) (Nat.le_of_ble_eq_true rfl) rfl (sp_J7_fill_53178  (o + 2) 0 ho.kc ho.ic (by decide) (fun mb f2 r2 => ?_))
  show zw_Wp l mm_X4_clear (zS L) 26 [some (zR o)] [] mb 0 0 Q
  refine wp_return (st := []) dd_X4_clear_26 rfl ?_
  refine k mb ⟨?_, ?_, fun x q1 q2 => ⟨?_, ?_⟩⟩ (fun a h1 h2 h3 => ?_)
  · rw [r2 o (by omega), r1 o (by omega), zu_n (Or.inr (by omega)), zu_s]
  · rw [r2 o (by omega), r1 o (by omega), zu_s]
  · rw [r2 (o + 1) (by omega)]; exact f1 x q1 q2
  · exact f2 x q1 q2
  · rw [r2 a h3, r1 a h2, zu_row h1, zu_row h1]

set_option maxRecDepth 100000 in
set_option maxHeartbeats 4000000 in
theorem sp_X4_addMultiple {l : Launch} {L : Nat} {mem : zMem} {Q : zQ}  (o : Nat) (r : Nat) (i : Int) (j : Int) (w : Int) (ho : zP o) (ho2 : zP r) (hor : o ≠ r) (hi : 0 ≤ i ∧ i ≤ 4) (hj : 0 ≤ j ∧ j ≤ 4) (hw : 0 ≤ w ∧ w ≤ 31) (hB : ∀ t : Int, 0 ≤ t → t < 25 → 0 ≤ mem (o + 1) t ∧ mem (o + 1) t ≤ 1000000) (hc : ∀ t : Int, 0 ≤ t → t < 25 → 0 ≤ mem (r + 2) t ∧ mem (r + 2) t ≤ 31) (k : ∀ (mem2 : zMem), (∀ x y : Int, 0 ≤ x ∧ x ≤ 4 → 0 ≤ y ∧ y ≤ 4 → mem2 (o + 1) (5 * x + y) = mem (o + 1) (5 * x + y) + w * (if 0 ≤ x - i ∧ x - i ≤ 4 ∧ 0 ≤ y - j ∧ y - j ≤ 4 then mem (r + 2) (5 * (x - i) + (y - j)) else 0)) → (∀ a : Nat, a ≠ o + 1 → mem2 a = mem a) → Q none (zS L) mem2) : zw_Ok l mm_X4_addMultiple [zR o, zR r, zI i, zI j, zI w] (zS L) mem Q := by
  refine zw_okA (fun hA => ?_)
  have rg_i : -2147483648 ≤ i ∧ i < 2147483648 := hA.2.2.1
  have rg_j : -2147483648 ≤ j ∧ j < 2147483648 := hA.2.2.2.1
  have rg_w : -2147483648 ≤ w ∧ w < 2147483648 := hA.2.2.2.2.1
  refine zw_enter (by decide) (Nat.le_of_ble_eq_true rfl) rfl ?_
  show zw_Wp l mm_X4_addMultiple (zS L) 0 [some (zR o), some (zR r), some (zI i), some (zI j), some (zI w), none, none] [] mem 0 0 Q
  refine wp_iconst dd_X4_addMultiple_0 (zr_lit rfl) ?_
  refine wp_istore (ls2 := [some (zR o), some (zR r), some (zI i), some (zI j), some (zI w), some (zI 0), none]) dd_X4_addMultiple_1 rfl (by decide) rfl ?_
  have lp3 : ∀ (nf : Nat) (a : Int) (mm : zMem), (0 ≤ a) → (a + i ≤ 5) → (∀ x y : Int, 0 ≤ x ∧ x ≤ 4 → 0 ≤ y ∧ y ≤ 4 → mm (o + 1) (5 * x + y) = mem (o + 1) (5 * x + y) + w * (if 0 ≤ x - i ∧ x - i < a ∧ 0 ≤ y - j ∧ y - j ≤ 4 then mem (r + 2) (5 * (x - i) + (y - j)) else 0)) → (∀ x : Nat, x ≠ o + 1 → mm x = mem x) → (5 - a) < (nf : Int) → zw_Wp l mm_X4_addMultiple (zS L) 3 [some (zR o), some (zR r), some (zI i), some (zI j), some (zI w), some (zI a), none] [] mm 0 0 Q := by
    intro nf
    induction nf with
    | zero =>
      intro a mm h0 h1 h2 h3 hmu
      exfalso; omega
    | succ nf ih3 =>
      intro a mm h0 h1 h2 h3 hmu
      refine wp_iload dd_X4_addMultiple_3 rfl ?_
      refine wp_iload_n dd_X4_addMultiple_5 rfl ?_
      refine wp_iaddC dd_X4_addMultiple_6 (by omega) ?_
      refine wp_iconst dd_X4_addMultiple_7 (zr_lit rfl) ?_
      refine wp_icmp_ge (tgt := 68) dd_X4_addMultiple_8 (by decide) (fun c8_1 => ?_) (fun c8_1 => ?_)
      · skip
        refine wp_return (st := []) dd_X4_addMultiple_68 rfl ?_
        refine k mm (fun x y q1 q2 => ?_) h3
        rw [h2 x y q1 q2]
        by_cases hq : 0 ≤ x - i ∧ x - i ≤ 4 ∧ 0 ≤ y - j ∧ y - j ≤ 4
        · rw [if_pos hq, if_pos (by omega)]
        · rw [if_neg hq, if_neg (by omega)]
      · skip
        refine wp_iconst dd_X4_addMultiple_11 (zr_lit rfl) ?_
        refine wp_istore (ls2 := [some (zR o), some (zR r), some (zI i), some (zI j), some (zI w), some (zI a), some (zI 0)]) dd_X4_addMultiple_12 rfl (by decide) rfl ?_
        have lp14 : ∀ (nf : Nat) (b : Int) (mm : zMem), (0 ≤ b) → (b + j ≤ 5) → (∀ x y : Int, 0 ≤ x ∧ x ≤ 4 → 0 ≤ y ∧ y ≤ 4 → mm (o + 1) (5 * x + y) = mem (o + 1) (5 * x + y) + w * (if 0 ≤ x - i ∧ (x - i < a ∨ x - i = a ∧ y - j < b) ∧ 0 ≤ y - j ∧ y - j ≤ 4 then mem (r + 2) (5 * (x - i) + (y - j)) else 0)) → (∀ x : Nat, x ≠ o + 1 → mm x = mem x) → (5 - b) < (nf : Int) → zw_Wp l mm_X4_addMultiple (zS L) 14 [some (zR o), some (zR r), some (zI i), some (zI j), some (zI w), some (zI a), some (zI b)] [] mm 0 0 Q := by
          intro nf
          induction nf with
          | zero =>
            intro b mm h4 h5 h2 h3 hmu
            exfalso; omega
          | succ nf ih14 =>
            intro b mm h4 h5 h2 h3 hmu
            have hd := zP.apart ho ho2 hor
            have hmr : mm (r + 2) = mem (r + 2) := h3 _ (by omega)
            refine wp_iload dd_X4_addMultiple_14 rfl ?_
            refine wp_iload_n dd_X4_addMultiple_16 rfl ?_
            refine wp_iaddC dd_X4_addMultiple_17 (by omega) ?_
            refine wp_iconst dd_X4_addMultiple_18 (zr_lit rfl) ?_
            refine wp_icmp_ge (tgt := 62) dd_X4_addMultiple_19 (by decide) (fun c19_2 => ?_) (fun c19_2 => ?_)
            · skip
              refine wp_iincC (ls2 := [some (zR o), some (zR r), some (zI i), some (zI j), some (zI w), some (zI (a + 1)), some (zI b)]) dd_X4_addMultiple_62 rfl rfl (by decide) (by omega) rfl ?_
              refine wp_goto (tgt := 3) dd_X4_addMultiple_65 (by decide) ?_
              refine wp_ls (zw_sub_of (a := [some (zR o), some (zR r), some (zI i), some (zI j), some (zI w), some (zI (a + 1)), none]) (And.intro rfl (And.intro rfl (And.intro rfl (And.intro rfl (And.intro rfl (And.intro rfl (trivial)))))))) ?_
              refine ih3 (a + 1) mm ?_ ?_ ?_ ?_ ?_
              · first | omega | assumption | (intros; omega)
              · first | omega | assumption | (intros; omega)
              · intro x y q1 q2
                rw [h2 x y q1 q2]
                by_cases hq : 0 ≤ x - i ∧ x - i < a + 1 ∧ 0 ≤ y - j ∧ y - j ≤ 4
                · rw [if_pos hq, if_pos (by omega)]
                · rw [if_neg hq, if_neg (by omega)]
              · first | omega | assumption | (intros; omega)
              · omega
            · skip
              have hcr := hc (5 * a + b) (by omega) (by omega)
              rw [← hmr] at hcr
              have hwm := zmul_rg (a := w) (b := mm (r + 2) (5 * a + b)) (A := 31) (B := 31) (by omega) (by omega) (by omega) (by omega)
              have hold : 0 ≤ mm (o + 1) (5 * (a + i) + b + j) ∧ mm (o + 1) (5 * (a + i) + b + j) ≤ 1000000 := by
                have e1 := h2 (a + i) (b + j) (by omega) (by omega)
                rw [if_neg (by omega), Int.mul_zero, Int.add_zero] at e1
                rw [show 5 * (a + i) + b + j = 5 * (a + i) + (b + j) by omega, e1]
                exact hB _ (by omega) (by omega)
              refine wp_aload_n dd_X4_addMultiple_22 rfl ?_
              refine wp_getR dd_X4_addMultiple_23 gf_X4_9 rfl ho.k (by decide) ho.i ho.t ?_
              refine wp_iconst dd_X4_addMultiple_26 (zr_lit rfl) ?_
              refine wp_iload dd_X4_addMultiple_27 rfl ?_
              refine wp_iload_n dd_X4_addMultiple_29 rfl ?_
              refine wp_iaddC dd_X4_addMultiple_30 (by omega) ?_
              refine wp_imulC dd_X4_addMultiple_31 (by omega) ?_
              refine wp_iload dd_X4_addMultiple_32 rfl ?_
              refine wp_iaddC dd_X4_addMultiple_34 (by omega) ?_
              refine wp_iload_n dd_X4_addMultiple_35 rfl ?_
              refine wp_iaddC dd_X4_addMultiple_36 (by omega) ?_
              refine wp_dup2 dd_X4_addMultiple_37 rfl rfl ?_
              refine wp_iald dd_X4_addMultiple_38 ho.kt ho.it (by omega) (by omega) ?_
              refine wp_iload dd_X4_addMultiple_39 rfl ?_
              refine wp_aload_n dd_X4_addMultiple_41 rfl ?_
              refine wp_getR dd_X4_addMultiple_42 gf_X4_15 rfl ho2.k (by decide) ho2.i ho2.c ?_
              refine wp_iconst dd_X4_addMultiple_45 (zr_lit rfl) ?_
              refine wp_iload dd_X4_addMultiple_46 rfl ?_
              refine wp_imulC dd_X4_addMultiple_48 (by omega) ?_
              refine wp_iload dd_X4_addMultiple_49 rfl ?_
              refine wp_iaddC dd_X4_addMultiple_51 (by omega) ?_
              refine wp_iald dd_X4_addMultiple_52 ho2.kc ho2.ic (by omega) (by omega) ?_
              refine wp_imulC dd_X4_addMultiple_53 (by omega) ?_
              refine wp_iaddC dd_X4_addMultiple_54 (by omega) ?_
              refine wp_iast dd_X4_addMultiple_55 ho.kt ho.it (by omega) (by omega) ?_
              refine wp_iincC (ls2 := [some (zR o), some (zR r), some (zI i), some (zI j), some (zI w), some (zI a), some (zI (b + 1))]) dd_X4_addMultiple_56 rfl rfl (by decide) (by omega) rfl ?_
              refine wp_goto (tgt := 14) dd_X4_addMultiple_59 (by decide) ?_
              refine ih14 (b + 1) (zu mm (o + 1) (((5 * (a + i)) + b) + j) ((mm (o + 1) (((5 * (a + i)) + b) + j)) + (w * (mm (r + 2) ((5 * a) + b))))) ?_ ?_ ?_ ?_ ?_
              · first | omega | assumption | (intros; omega)
              · first | omega | assumption | (intros; omega)
              · intro x y q1 q2
                by_cases hq : x = a + i ∧ y = b + j
                · obtain ⟨rfl, rfl⟩ := hq
                  rw [show 5 * (a + i) + (b + j) = 5 * (a + i) + b + j by omega, zu_s, hmr, if_pos (by omega), show 5 * (a + i) + b + j = 5 * (a + i) + (b + j) by omega, h2 (a + i) (b + j) q1 q2, if_neg (by omega), show a + i - i = a by omega, show b + j - j = b by omega, Int.mul_zero, Int.add_zero]
                · rw [zu_n (Or.inr (by omega)), h2 x y q1 q2]
                  by_cases hr : 0 ≤ x - i ∧ (x - i < a ∨ x - i = a ∧ y - j < b) ∧ 0 ≤ y - j ∧ y - j ≤ 4
                  · rw [if_pos hr, if_pos (by omega)]
                  · rw [if_neg hr, if_neg (by omega)]
              · intro x hx; rw [zu_row hx]; exact h3 x hx
              · omega
        refine lp14 ((5 - 0 : Int)).toNat.succ 0 mm ?_ ?_ ?_ ?_ ?_
        · first | omega | assumption | (intros; omega)
        · first | omega | assumption | (intros; omega)
        · intro x y q1 q2
          rw [h2 x y q1 q2]
          by_cases hq : 0 ≤ x - i ∧ x - i < a ∧ 0 ≤ y - j ∧ y - j ≤ 4
          · rw [if_pos hq, if_pos (by omega)]
          · rw [if_neg hq, if_neg (by omega)]
        · first | omega | assumption | (intros; omega)
        · omega
  refine lp3 ((5 - 0 : Int)).toNat.succ 0 mem ?_ ?_ ?_ ?_ ?_
  · first | omega | assumption | (intros; omega)
  · first | omega | assumption | (intros; omega)
  · intro x y q1 q2; rw [if_neg (by omega), Int.mul_zero, Int.add_zero]
  · intros; rfl
  · omega

set_option maxRecDepth 100000 in
set_option maxHeartbeats 4000000 in
theorem sp_X4_multiply {l : Launch} {L : Nat} {mem : zMem} {Q : zQ}  (o : Nat) (r : Nat) (u : Nat) (p : Int) (ho : zP o) (ho2 : zP r) (ho3 : zP u) (hor : o ≠ r) (hou : o ≠ u) (hp : 2 ≤ p ∧ p ≤ 31) (hz : mem o 0 = 0 ∧ mem o 1 = 0 ∧ ∀ t : Int, 0 ≤ t → t < 25 → mem (o + 1) t = 0) (hc : ∀ t : Int, 0 ≤ t → t < 25 → 0 ≤ mem (r + 2) t ∧ mem (r + 2) t < p) (hd : ∀ t : Int, 0 ≤ t → t < 25 → 0 ≤ mem (u + 2) t ∧ mem (u + 2) t < p) (k : ∀ (mem2 : zMem), (zPI mem2 o p 0 0 (fun t => zcv (mem (r + 2)) (mem (u + 2)) (t / 5) (t % 5) 25 % p)) → (∀ a : Nat, a ≠ o + 1 → a ≠ o + 2 → mem2 a = mem a) → Q none (zS L) mem2) : zw_Ok l mm_X4_multiply [zR o, zR r, zR u, zI p] (zS L) mem Q := by
  refine zw_okA (fun hA => ?_)
  have rg_p : -2147483648 ≤ p ∧ p < 2147483648 := hA.2.2.2.1
  refine zw_enter (by decide) (Nat.le_of_ble_eq_true rfl) rfl ?_
  show zw_Wp l mm_X4_multiply (zS L) 0 [some (zR o), some (zR r), some (zR u), some (zI p), none, none] [] mem 0 0 Q
  have hd1 := zP.apart ho ho2 hor
  have hd2 := zP.apart ho ho3 hou
  refine wp_iconst dd_X4_multiply_0 (zr_lit rfl) ?_
  refine wp_istore (ls2 := [some (zR o), some (zR r), some (zR u), some (zI p), some (zI 0), none]) dd_X4_multiply_1 rfl (by decide) rfl ?_
  have lp3 : ∀ (nf : Nat) (i : Int) (mm : zMem), (0 ≤ i) → (i ≤ 5) → (∀ x y : Int, 0 ≤ x ∧ x ≤ 4 → 0 ≤ y ∧ y ≤ 4 → mm (o + 1) (5 * x + y) = zcv (mem (r + 2)) (mem (u + 2)) x y (5 * i).toNat) → (∀ x : Nat, x ≠ o + 1 → mm x = mem x) → (5 - i) < (nf : Int) → zw_Wp l mm_X4_multiply (zS L) 3 [some (zR o), some (zR r), some (zR u), some (zI p), some (zI i), none] [] mm 0 0 Q := by
    intro nf
    induction nf with
    | zero =>
      intro i mm h0 h1 h2 h3 hmu
      exfalso; omega
    | succ nf ih3 =>
      intro i mm h0 h1 h2 h3 hmu
      refine wp_iload dd_X4_multiply_3 rfl ?_
      refine wp_iconst dd_X4_multiply_5 (zr_lit rfl) ?_
      refine wp_icmp_ge (tgt := 62) dd_X4_multiply_6 (by decide) (fun c6_1 => ?_) (fun c6_1 => ?_)
      · skip
        have hm0 : mm o = mem o := h3 _ (by omega)
        have g2 : ∀ t : Int, 0 ≤ t → t < 25 → mm (o + 1) t % p = zcv (mem (r + 2)) (mem (u + 2)) (t / 5) (t % 5) 25 % p := by
          intro t q1 q2
          have e := h2 (t / 5) (t % 5) (by omega) (by omega)
          rw [show 5 * (t / 5) + t % 5 = t by omega, show (5 * i).toNat = 25 by omega] at e
          rw [e]
        refine wp_aload_n dd_X4_multiply_62 rfl ?_
        refine wp_iload_n dd_X4_multiply_63 rfl ?_
        refine wp_callV (M' := mm_X4_reduceBy) (As := [zI p]) (rest := []) dd_X4_multiply_64 lk_X4_87 mV_X4_reduceBy ho.k ho.i ⟨_, _, rfl⟩ rfl (by decide) (by decide) (Nat.le_of_ble_eq_true rfl) rfl (sp_X4_reduceBy  o p (by first | assumption | omega) (by first | assumption | omega) (by rw [hm0]; omega) (by rw [hm0]; omega) (fun mf hf8 hr8 => ?_))
        show zw_Wp l mm_X4_multiply (zS L) 67 [some (zR o), some (zR r), some (zR u), some (zI p), some (zI i), none] [] mf 0 0 Q
        refine wp_return (st := []) dd_X4_multiply_67 rfl ?_
        rw [hm0, hz.1, hz.2.1] at hf8
        exact k mf (hf8.told g2) (fun a h1 h2 => by rw [hr8 a h1 h2, h3 a h1])
      · skip
        refine wp_iconst dd_X4_multiply_9 (zr_lit rfl) ?_
        refine wp_istore (ls2 := [some (zR o), some (zR r), some (zR u), some (zI p), some (zI i), some (zI 0)]) dd_X4_multiply_10 rfl (by decide) rfl ?_
        have lp12 : ∀ (nf : Nat) (j : Int) (mm : zMem), (0 ≤ j) → (j ≤ 5) → (∀ x y : Int, 0 ≤ x ∧ x ≤ 4 → 0 ≤ y ∧ y ≤ 4 → mm (o + 1) (5 * x + y) = zcv (mem (r + 2)) (mem (u + 2)) x y (5 * i + j).toNat) → (∀ x : Nat, x ≠ o + 1 → mm x = mem x) → (5 - j) < (nf : Int) → zw_Wp l mm_X4_multiply (zS L) 12 [some (zR o), some (zR r), some (zR u), some (zI p), some (zI i), some (zI j)] [] mm 0 0 Q := by
          intro nf
          induction nf with
          | zero =>
            intro j mm h4 h5 h2 h3 hmu
            exfalso; omega
          | succ nf ih12 =>
            intro j mm h4 h5 h2 h3 hmu
            have hmr : mm (r + 2) = mem (r + 2) := h3 _ (by omega)
            have hmu : mm (u + 2) = mem (u + 2) := h3 _ (by omega)
            refine wp_iload dd_X4_multiply_12 rfl ?_
            refine wp_iconst dd_X4_multiply_14 (zr_lit rfl) ?_
            refine wp_icmp_ge (tgt := 56) dd_X4_multiply_15 (by decide) (fun c15_2 => ?_) (fun c15_2 => ?_)
            · skip
              refine wp_iincC (ls2 := [some (zR o), some (zR r), some (zR u), some (zI p), some (zI (i + 1)), some (zI j)]) dd_X4_multiply_56 rfl rfl (by decide) (by omega) rfl ?_
              refine wp_goto (tgt := 3) dd_X4_multiply_59 (by decide) ?_
              refine wp_ls (zw_sub_of (a := [some (zR o), some (zR r), some (zR u), some (zI p), some (zI (i + 1)), none]) (And.intro rfl (And.intro rfl (And.intro rfl (And.intro rfl (And.intro rfl (trivial))))))) ?_
              refine ih3 (i + 1) mm ?_ ?_ ?_ ?_ ?_
              · first | omega | assumption | (intros; omega)
              · first | omega | assumption | (intros; omega)
              · intro x y q1 q2; rw [h2 x y q1 q2, show (5 * (i + 1)).toNat = (5 * i + j).toNat by omega]
              · first | omega | assumption | (intros; omega)
              · omega
            · skip
              refine wp_aload_n dd_X4_multiply_18 rfl ?_
              refine wp_iload dd_X4_multiply_19 rfl ?_
              refine wp_iload dd_X4_multiply_21 rfl ?_
              refine wp_callV (M' := mm_X4_hasTerm) (As := [zI i, zI j]) (rest := []) dd_X4_multiply_23 lk_X4_66 mV_X4_hasTerm ho2.k ho2.i ⟨_, _, rfl⟩ rfl (by decide) (by decide) (Nat.le_of_ble_eq_true rfl) rfl (sp_X4_hasTerm  r i j (by first | assumption | omega) (by first | assumption | omega) (by first | assumption | omega) ?_)
              show zw_Wp l mm_X4_multiply (zS L) 26 [some (zR o), some (zR r), some (zR u), some (zI p), some (zI i), some (zI j)] [zI (if mm (r + 2) (5 * i + j) = 0 then 0 else 1)] mm 0 0 Q
              refine wp_if_eq (tgt := 50) dd_X4_multiply_26 (by decide) (fun c26_3 => ?_) (fun c26_3 => ?_)
              · skip
                have hz9 : mm (r + 2) (5 * i + j) = 0 := by
                  by_cases q : mm (r + 2) (5 * i + j) = 0
                  · exact q
                  · rw [if_neg q] at c26_3; omega
                refine wp_iincC (ls2 := [some (zR o), some (zR r), some (zR u), some (zI p), some (zI i), some (zI (j + 1))]) dd_X4_multiply_50 rfl rfl (by decide) (by omega) rfl ?_
                refine wp_goto (tgt := 12) dd_X4_multiply_53 (by decide) ?_
                refine ih12 (j + 1) mm ?_ ?_ ?_ ?_ ?_
                · first | omega | assumption | (intros; omega)
                · first | omega | assumption | (intros; omega)
                · intro x y q1 q2
                  rw [show (5 * i + (j + 1)).toNat = (5 * i + j).toNat + 1 by omega, zcv, show (((5 * i + j).toNat : Nat) : Int) = 5 * i + j by omega, show (5 * i + j) / 5 = i by omega, show (5 * i + j) % 5 = j by omega]
                  first
                  | (rw [hf9 x y q1 q2, h2 x y q1 q2, hmr, hmu])
                  | (rw [hmr] at hz9; rw [h2 x y q1 q2, hz9, Int.zero_mul, Int.add_zero])
                · first | assumption | (intro x hx; rw [hr9 x hx]; exact h3 x hx)
                · omega
              · skip
                refine wp_aload_n dd_X4_multiply_29 rfl ?_
                refine wp_aload_n dd_X4_multiply_30 rfl ?_
                refine wp_iload dd_X4_multiply_31 rfl ?_
                refine wp_iload dd_X4_multiply_33 rfl ?_
                refine wp_aload_n dd_X4_multiply_35 rfl ?_
                refine wp_getR dd_X4_multiply_36 gf_X4_15 rfl ho2.k (by decide) ho2.i ho2.c ?_
                refine wp_iconst dd_X4_multiply_39 (zr_lit rfl) ?_
                refine wp_iload dd_X4_multiply_40 rfl ?_
                refine wp_imulC dd_X4_multiply_42 (by omega) ?_
                refine wp_iload dd_X4_multiply_43 rfl ?_
                refine wp_iaddC dd_X4_multiply_45 (by omega) ?_
                refine wp_iald dd_X4_multiply_46 ho2.kc ho2.ic (by omega) (by omega) ?_
                refine wp_callV (M' := mm_X4_addMultiple) (As := [zR u, zI i, zI j, zI (mm (r + 2) ((5 * i) + j))]) (rest := []) dd_X4_multiply_47 lk_X4_83 mV_X4_addMultiple ho.k ho.i ⟨_, _, rfl⟩ rfl (by decide) (by decide) (Nat.le_of_ble_eq_true rfl) rfl (sp_X4_addMultiple  o u i j (mm (r + 2) ((5 * i) + j)) (by first | assumption | omega) (by first | assumption | omega) (by first | assumption | omega) (by first | assumption | omega) (by first | assumption | omega) (by rw [hmr]; have := hc (5 * i + j) (by omega) (by omega); omega) (fun t q1 q2 => by have e := h2 (t / 5) (t % 5) (by omega) (by omega); rw [show 5 * (t / 5) + t % 5 = t by omega] at e; rw [e]; have := zcv_rg (x := t / 5) (y := t % 5) ⟨by omega, hp.2⟩ hc hd (5 * i + j).toNat (by omega); omega) (by rw [hmu]; intro t q1 q2; have := hd t q1 q2; omega) (fun me hf9 hr9 => ?_))
                show zw_Wp l mm_X4_multiply (zS L) 50 [some (zR o), some (zR r), some (zR u), some (zI p), some (zI i), some (zI j)] [] me 0 0 Q
                refine wp_iincC (ls2 := [some (zR o), some (zR r), some (zR u), some (zI p), some (zI i), some (zI (j + 1))]) dd_X4_multiply_50 rfl rfl (by decide) (by omega) rfl ?_
                refine wp_goto (tgt := 12) dd_X4_multiply_53 (by decide) ?_
                refine ih12 (j + 1) me ?_ ?_ ?_ ?_ ?_
                · first | omega | assumption | (intros; omega)
                · first | omega | assumption | (intros; omega)
                · intro x y q1 q2
                  rw [show (5 * i + (j + 1)).toNat = (5 * i + j).toNat + 1 by omega, zcv, show (((5 * i + j).toNat : Nat) : Int) = 5 * i + j by omega, show (5 * i + j) / 5 = i by omega, show (5 * i + j) % 5 = j by omega]
                  first
                  | (rw [hf9 x y q1 q2, h2 x y q1 q2, hmr, hmu])
                  | (rw [hmr] at hz9; rw [h2 x y q1 q2, hz9, Int.zero_mul, Int.add_zero])
                · first | assumption | (intro x hx; rw [hr9 x hx]; exact h3 x hx)
                · omega
        refine lp12 ((5 - 0 : Int)).toNat.succ 0 mm ?_ ?_ ?_ ?_ ?_
        · first | omega | assumption | (intros; omega)
        · first | omega | assumption | (intros; omega)
        · intro x y q1 q2; rw [h2 x y q1 q2, Int.add_zero]
        · first | omega | assumption | (intros; omega)
        · omega
  refine lp3 ((5 - 0 : Int)).toNat.succ 0 mem ?_ ?_ ?_ ?_ ?_
  · first | omega | assumption | (intros; omega)
  · first | omega | assumption | (intros; omega)
  · intro x y q1 q2; exact hz.2.2 _ (by omega) (by omega)
  · intros; rfl
  · omega

