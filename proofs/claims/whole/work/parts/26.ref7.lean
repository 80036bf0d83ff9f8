/-! ===== common roots ===== -/
def zri (c d : Int → Int) (p x y : Int) : Int := if zvs c x y p 25 = 0 ∧ zvs d x y p 25 = 0 then 1 else 0
theorem zri_01 (c d : Int → Int) (p x y : Int) : zri c d p x y = 0 ∨ zri c d p x y = 1 := by
  unfold zri
  split
  · exact Or.inr rfl
  · exact Or.inl rfl
def zcY (e : Int → Int → Int) (x : Int) : Nat → Int
  | 0 => 0
  | n + 1 => zcY e x n + e x n
def zcX (e : Int → Int → Int) (p : Int) : Nat → Int
  | 0 => 0
  | n + 1 => zcX e p n + zcY e n p.toNat
theorem zcY_rg {e : Int → Int → Int} {x : Int} (h : ∀ x y, e x y = 0 ∨ e x y = 1) : ∀ n : Nat, 0 ≤ zcY e x n ∧ zcY e x n ≤ n
  | 0 => ⟨Int.le_refl 0, Int.le_refl 0⟩
  | n + 1 => by
    have h1 := zcY_rg (x := x) h n
    have h2 := h x n
    unfold zcY
    omega
theorem zcX_rg {e : Int → Int → Int} {p : Int} (h : ∀ x y, e x y = 0 ∨ e x y = 1) (hp : 0 ≤ p ∧ p ≤ 31) : ∀ n : Nat, 0 ≤ zcX e p n ∧ zcX e p n ≤ 31 * n
  | 0 => ⟨Int.le_refl 0, Int.le_refl 0⟩
  | n + 1 => by
    have h1 := zcX_rg h hp n
    have h2 := zcY_rg (x := n) h p.toNat
    unfold zcX
    omega
/-- the k-th root, from the pair where the walk stands -/
def zRY (e : Int → Int → Int) (x p : Int) (co : Int → Int) : Nat → Int → Int
  | 0, k => co k
  | n + 1, k => if e x (p - (n + 1)) = 0 then zRY e x p co n k else if k = 0 then 100 * x + (p - (n + 1)) else zRY e x p co n (k - 1)
def zRX (e : Int → Int → Int) (p : Int) : Nat → Int → Int
  | 0, _ => -9
  | n + 1, k => zRY e (p - (n + 1)) p (zRX e p n) p.toNat k
def znz (e : Int → Int → Int) (x y : Int) : Int := if x = 0 ∨ y = 0 then 0 else e x y
theorem znz_01 {e : Int → Int → Int} (h : ∀ x y, e x y = 0 ∨ e x y = 1) (x y : Int) : znz e x y = 0 ∨ znz e x y = 1 := by
  unfold znz
  split
  · exact Or.inl rfl
  · exact h x y
theorem znz_x0 {e : Int → Int → Int} {x : Int} : znz e x 0 = 0 := by
  unfold znz
  rw [if_pos (Or.inr rfl)]
theorem znz_0 {e : Int → Int → Int} : ∀ n : Nat, zcY (znz e) 0 n = 0
  | 0 => rfl
  | n + 1 => by
    rw [zcY, znz_0 n]
    unfold znz
    rw [if_pos (Or.inl rfl)]; rfl
def zbY (e : Int → Int → Int) (le x acc : Int) : Nat → Int
  | 0 => acc
  | n + 1 => if e x n = 0 then zbY e le x acc n else zbor (zbY e le x acc n) (1 * 2 ^ (if le = 0 then (n : Int) else x).toNat)
def zbX (e : Int → Int → Int) (le p : Int) : Nat → Int
  | 0 => 0
  | n + 1 => zbY e le n (zbX e le p n) p.toNat
theorem zbY_rg {e : Int → Int → Int} {le x acc : Int} (h : zw_r32 acc) : ∀ n : Nat, zw_r32 (zbY e le x acc n)
  | 0 => h
  | n + 1 => by
    unfold zbY
    split
    · exact zbY_rg h n
    · exact zbor_rg _ _
theorem zbX_rg {e : Int → Int → Int} {le p : Int} : ∀ n : Nat, zw_r32 (zbX e le p n)
  | 0 => z32_0
  | n + 1 => zbY_rg (zbX_rg n) _

set_option maxRecDepth 100000 in
set_option maxHeartbeats 4000000 in
theorem sp_X11_isRoot {l : Launch} {L : Nat} {mem : zMem} {Q : zQ}  (a : Int) (b : Int) (x : Int) (y : Int) (hp : zPr (mem 67 1)) (hTx : zT mem a) (hTy : zT mem b) (k : Q (some (zI (zri (zco mem a) (zco mem b) (mem 67 1) x y))) (zS L) mem) : zw_Ok l mm_X11_isRoot [zR 67, zI a, zI b, zI x, zI y] (zS L) mem Q := by
  refine zw_okA (fun hA => ?_)
  have rg_a : -2147483648 ≤ a ∧ a < 2147483648 := hA.2.1
  have rg_b : -2147483648 ≤ b ∧ b < 2147483648 := hA.2.2.1
  have rg_x : -2147483648 ≤ x ∧ x < 2147483648 := hA.2.2.2.1
  have rg_y : -2147483648 ≤ y ∧ y < 2147483648 := hA.2.2.2.2.1
  refine zw_enter (by decide) (Nat.le_of_ble_eq_true rfl) rfl ?_
  show zw_Wp l mm_X11_isRoot (zS L) 0 [some (zR 67), some (zI a), some (zI b), some (zI x), some (zI y)] [] mem 0 0 Q
  refine wp_aload_n dd_X11_isRoot_0 rfl ?_
  refine wp_iload_n dd_X11_isRoot_1 rfl ?_
  refine wp_iload_n dd_X11_isRoot_2 rfl ?_
  refine wp_iload dd_X11_isRoot_3 rfl ?_
  refine wp_callV (M' := mm_X11_valueAt) (As := [zI a, zI x, zI y]) (rest := []) dd_X11_isRoot_5 lk_X11_167 mV_X11_valueAt kk_67 (zlt rfl) ⟨_, _, rfl⟩ rfl (by decide) (by decide) (Nat.le_of_ble_eq_true rfl) rfl (sp_X11_valueAt  a x y (by first | assumption | omega) hTx ?_)
  show zw_Wp l mm_X11_isRoot (zS L) 8 [some (zR 67), some (zI a), some (zI b), some (zI x), some (zI y)] [zI (zvs (zco mem a) x y (mem 67 1) 25)] mem 0 0 Q
  refine wp_if_ne (tgt := 26) dd_X11_isRoot_8 (by decide) (fun c8_1 => ?_) (fun c8_1 => ?_)
  · skip
    refine wp_iconst dd_X11_isRoot_26 (zr_lit rfl) ?_
    refine wp_zreturn (st := []) dd_X11_isRoot_27 rfl (by omega) ?_
    refine zq_I ?_ ?_ k
    · unfold zri; first | rw [if_pos ⟨by omega, by omega⟩] | rw [if_neg (fun q => by have := q.1; have := q.2; omega)]
    · rfl
  · skip
    refine wp_aload_n dd_X11_isRoot_11 rfl ?_
    refine wp_iload_n dd_X11_isRoot_12 rfl ?_
    refine wp_iload_n dd_X11_isRoot_13 rfl ?_
    refine wp_iload dd_X11_isRoot_14 rfl ?_
    refine wp_callV (M' := mm_X11_valueAt) (As := [zI b, zI x, zI y]) (rest := []) dd_X11_isRoot_16 lk_X11_167 mV_X11_valueAt kk_67 (zlt rfl) ⟨_, _, rfl⟩ rfl (by decide) (by decide) (Nat.le_of_ble_eq_true rfl) rfl (sp_X11_valueAt  b x y (by first | assumption | omega) hTy ?_)
    show zw_Wp l mm_X11_isRoot (zS L) 19 [some (zR 67), some (zI a), some (zI b), some (zI x), some (zI y)] [zI (zvs (zco mem b) x y (mem 67 1) 25)] mem 0 0 Q
    refine wp_if_ne (tgt := 26) dd_X11_isRoot_19 (by decide) (fun c19_2 => ?_) (fun c19_2 => ?_)
    · skip
      refine wp_iconst dd_X11_isRoot_26 (zr_lit rfl) ?_
      refine wp_zreturn (st := []) dd_X11_isRoot_27 rfl (by omega) ?_
      refine zq_I ?_ ?_ k
      · unfold zri; first | rw [if_pos ⟨by omega, by omega⟩] | rw [if_neg (fun q => by have := q.1; have := q.2; omega)]
      · rfl
    · skip
      refine wp_iconst dd_X11_isRoot_22 (zr_lit rfl) ?_
      refine wp_goto (tgt := 27) dd_X11_isRoot_23 (by decide) ?_
      refine wp_zreturn (st := []) dd_X11_isRoot_27 rfl (by omega) ?_
      refine zq_I ?_ ?_ k
      · unfold zri; first | rw [if_pos ⟨by omega, by omega⟩] | rw [if_neg (fun q => by have := q.1; have := q.2; omega)]
      · rfl

set_option maxRecDepth 100000 in
set_option maxHeartbeats 4000000 in
theorem sp_X11_without {l : Launch} {L : Nat} {mem : zMem} {Q : zQ}  (a : Int) (b : Int) (hp : zPr (mem 67 1)) (hn : 0 ≤ mem 67 5 ∧ mem 67 5 ≤ 6) (hTa : ∀ q : Int, 0 ≤ q → q < mem 67 5 → zT mem q) (k : ∀ (r : Int) (mem2 : zMem), ((¬ ((0 ≤ a ∧ a < mem 67 5) ∧ (0 ≤ b ∧ b < mem 67 5)) ∧ r = -1 ∧ mem2 = zno mem (-1)) ∨ (¬ ¬ ((0 ≤ a ∧ a < mem 67 5) ∧ (0 ≤ b ∧ b < mem 67 5)) ∧ r = zcX (znz (zri (zco mem a) (zco mem b) (mem 67 1))) (mem 67 1) (mem 67 1).toNat ∧ mem2 = mem)) → Q (some (zI r)) (zS L) mem2) : zw_Ok l mm_X11_without [zR 67, zI a, zI b] (zS L) mem Q := by
  refine zw_okA (fun hA => ?_)
  have rg_a : -2147483648 ≤ a ∧ a < 2147483648 := hA.2.1
  have rg_b : -2147483648 ≤ b ∧ b < 2147483648 := hA.2.2.1
  refine zw_enter (by decide) (Nat.le_of_ble_eq_true rfl) rfl ?_
  show zw_Wp l mm_X11_without (zS L) 0 [some (zR 67), some (zI a), some (zI b), none, none, none] [] mem 0 0 Q
  have hpr := hp.rg
  refine wp_aload_n dd_X11_without_0 rfl ?_
  refine wp_iload_n dd_X11_without_1 rfl ?_
  refine wp_iload_n dd_X11_without_2 rfl ?_
  refine wp_iconst dd_X11_without_3 (zr_lit rfl) ?_
  refine wp_callV (M' := mm_X11_notTwo) (As := [zI a, zI b, zI 0]) (rest := []) dd_X11_without_4 lk_X11_170 mV_X11_notTwo kk_67 (zlt rfl) ⟨_, _, rfl⟩ rfl (by decide) (by decide) (Nat.le_of_ble_eq_true rfl) rfl (sp_X11_notTwo  a b 0 (by first | assumption | omega) ?_)
  show zw_Wp l mm_X11_without (zS L) 7 [some (zR 67), some (zI a), some (zI b), none, none, none] [zI (if (0 ≤ a ∧ a < mem 67 5) ∧ (0 ≤ b ∧ b < mem 67 5) ∧ 0 ≤ 0 ∧ 0 ≤ 1 then 0 else -1)] mem 0 0 Q
  refine wp_if_eq (tgt := 16) dd_X11_without_7 (by decide) (fun c7_1 => ?_) (fun c7_1 => ?_)
  · skip
    have hok : ((0 ≤ a ∧ a < mem 67 5) ∧ (0 ≤ b ∧ b < mem 67 5)) ∧ 0 ≤ 0 := by omega
    have hTx := hTa a (by omega) (by omega)
    have hTy := hTa b (by omega) (by omega)
    have h01 := zri_01 (zco mem a) (zco mem b) (mem 67 1)
    have h02 := znz_01 h01
    refine wp_iconst dd_X11_without_16 (zr_lit rfl) ?_
    refine wp_istore_n (ls2 := [some (zR 67), some (zI a), some (zI b), some (zI 0), none, none]) dd_X11_without_17 rfl (by decide) rfl ?_
    refine wp_iconst dd_X11_without_18 (zr_lit rfl) ?_
    refine wp_istore (ls2 := [some (zR 67), some (zI a), some (zI b), some (zI 0), some (zI 1), none]) dd_X11_without_19 rfl (by decide) rfl ?_
    have lp21 : ∀ (nf : Nat) (n : Int) (x : Int), (1 ≤ x) → (x ≤ mem 67 1) → (n = zcX (znz (zri (zco mem a) (zco mem b) (mem 67 1))) (mem 67 1) x.toNat) → (mem 67 1 - x) < (nf : Int) → zw_Wp l mm_X11_without (zS L) 21 [some (zR 67), some (zI a), some (zI b), some (zI n), some (zI x), none] [] mem 0 0 Q := by
      intro nf
      induction nf with
      | zero =>
        intro n x h0 h1 h2 hmu
        exfalso; omega
      | succ nf ih21 =>
        intro n x h0 h1 h2 hmu
        refine wp_iload dd_X11_without_21 rfl ?_
        refine wp_aload_n dd_X11_without_23 rfl ?_
        refine wp_getZ 1 rfl dd_X11_without_24 gf_X11_9 rfl kk_67 (by decide) (zlt rfl) ?_
        refine wp_icmp_ge (tgt := 75) dd_X11_without_27 (by decide) (fun c27_2 => ?_) (fun c27_2 => ?_)
        · skip
          refine wp_iload_n dd_X11_without_75 rfl ?_
          refine wp_ireturn (st := []) dd_X11_without_76 rfl ?_
          exact k _ _ (Or.inr ⟨by omega, by rw [h2, show x = mem 67 1 by omega], rfl⟩)
        · skip
          refine wp_iconst dd_X11_without_30 (zr_lit rfl) ?_
          refine wp_istore (ls2 := [some (zR 67), some (zI a), some (zI b), some (zI n), some (zI x), some (zI 1)]) dd_X11_without_31 rfl (by decide) rfl ?_
          have lp33 : ∀ (nf : Nat) (n : Int) (y : Int), (1 ≤ y) → (y ≤ mem 67 1) → (n = zcX (znz (zri (zco mem a) (zco mem b) (mem 67 1))) (mem 67 1) x.toNat + zcY (znz (zri (zco mem a) (zco mem b) (mem 67 1))) x y.toNat) → (mem 67 1 - y) < (nf : Int) → zw_Wp l mm_X11_without (zS L) 33 [some (zR 67), some (zI a), some (zI b), some (zI n), some (zI x), some (zI y)] [] mem 0 0 Q := by
            intro nf
            induction nf with
            | zero =>
              intro n y h4 h5 h3 hmu
              exfalso; omega
            | succ nf ih33 =>
              intro n y h4 h5 h3 hmu
              have hx9 := zcX_rg (p := mem 67 1) h02 (by omega) x.toNat
              have hy9 := zcY_rg (x := x) h02 y.toNat
              refine wp_iload dd_X11_without_33 rfl ?_
              refine wp_aload_n dd_X11_without_35 rfl ?_
              refine wp_getZ 1 rfl dd_X11_without_36 gf_X11_9 rfl kk_67 (by decide) (zlt rfl) ?_
              refine wp_icmp_ge (tgt := 69) dd_X11_without_39 (by decide) (fun c39_3 => ?_) (fun c39_3 => ?_)
              · skip
                refine wp_iincC (ls2 := [some (zR 67), some (zI a), some (zI b), some (zI n), some (zI (x + 1)), some (zI y)]) dd_X11_without_69 rfl rfl (by decide) (by omega) rfl ?_
                refine wp_goto (tgt := 21) dd_X11_without_72 (by decide) ?_
                refine wp_ls (zw_sub_of (a := [some (zR 67), some (zI a), some (zI b), some (zI n), some (zI (x + 1)), none]) (And.intro rfl (And.intro rfl (And.intro rfl (And.intro rfl (And.intro rfl (trivial))))))) ?_
                refine ih21 n (x + 1) ?_ ?_ ?_ ?_
                · first | omega | assumption | (intros; omega)
                · first | omega | assumption | (intros; omega)
                · rw [show (x + 1).toNat = x.toNat + 1 by omega, zcX, show ((x.toNat : Nat) : Int) = x by omega, h3, show y = mem 67 1 by omega]
                · omega
              · skip
                refine wp_iload_n dd_X11_without_42 rfl ?_
                refine wp_aload_n dd_X11_without_43 rfl ?_
                refine wp_iload_n dd_X11_without_44 rfl ?_
                refine wp_iload_n dd_X11_without_45 rfl ?_
                refine wp_iload dd_X11_without_46 rfl ?_
                refine wp_iload dd_X11_without_48 rfl ?_
                refine wp_callV (M' := mm_X11_isRoot) (As := [zI a, zI b, zI x, zI y]) (rest := [zI n]) dd_X11_without_50 lk_X11_264 mV_X11_isRoot kk_67 (zlt rfl) ⟨_, _, rfl⟩ rfl (by decide) (by decide) (Nat.le_of_ble_eq_true rfl) rfl (sp_X11_isRoot  a b x y (by first | assumption | omega) (by first | assumption | omega) (by first | assumption | omega) ?_)
                show zw_Wp l mm_X11_without (zS L) 53 [some (zR 67), some (zI a), some (zI b), some (zI n), some (zI x), some (zI y)] [zI (zri (zco mem a) (zco mem b) (mem 67 1) x y), zI n] mem 0 0 Q
                refine wp_if_eq (tgt := 60) dd_X11_without_53 (by decide) (fun c53_4 => ?_) (fun c53_4 => ?_)
                · skip
                  refine wp_iconst dd_X11_without_60 (zr_lit rfl) ?_
                  refine wp_iaddC dd_X11_without_61 (by omega) ?_
                  refine wp_istore_n (ls2 := [some (zR 67), some (zI a), some (zI b), some (zI (n + 0)), some (zI x), some (zI y)]) dd_X11_without_62 rfl (by decide) rfl ?_
                  refine wp_iincC (ls2 := [some (zR 67), some (zI a), some (zI b), some (zI (n + 0)), some (zI x), some (zI (y + 1))]) dd_X11_without_63 rfl rfl (by decide) (by omega) rfl ?_
                  refine wp_goto (tgt := 33) dd_X11_without_66 (by decide) ?_
                  refine ih33 (n + 0) (y + 1) ?_ ?_ ?_ ?_
                  · first | omega | assumption | (intros; omega)
                  · first | omega | assumption | (intros; omega)
                  · rw [show (y + 1).toNat = y.toNat + 1 by omega, zcY, show ((y.toNat : Nat) : Int) = y by omega, h3]
                    unfold znz
                    rw [if_neg (show ¬ (x = 0 ∨ y = 0) by omega)]
                    have hr9 := h01 x y
                    omega
                  · omega
                · skip
                  refine wp_iconst dd_X11_without_56 (zr_lit rfl) ?_
                  refine wp_goto (tgt := 61) dd_X11_without_57 (by decide) ?_
                  refine wp_iaddC dd_X11_without_61 (by omega) ?_
                  refine wp_istore_n (ls2 := [some (zR 67), some (zI a), some (zI b), some (zI (n + 1)), some (zI x), some (zI y)]) dd_X11_without_62 rfl (by decide) rfl ?_
                  refine wp_iincC (ls2 := [some (zR 67), some (zI a), some (zI b), some (zI (n + 1)), some (zI x), some (zI (y + 1))]) dd_X11_without_63 rfl rfl (by decide) (by omega) rfl ?_
                  refine wp_goto (tgt := 33) dd_X11_without_66 (by decide) ?_
                  refine ih33 (n + 1) (y + 1) ?_ ?_ ?_ ?_
                  · first | omega | assumption | (intros; omega)
                  · first | omega | assumption | (intros; omega)
                  · rw [show (y + 1).toNat = y.toNat + 1 by omega, zcY, show ((y.toNat : Nat) : Int) = y by omega, h3]
                    unfold znz
                    rw [if_neg (show ¬ (x = 0 ∨ y = 0) by omega)]
                    have hr9 := h01 x y
                    omega
                  · omega
          refine lp33 ((mem 67 1 - 1 : Int)).toNat.succ n 1 ?_ ?_ ?_ ?_
          · first | omega | assumption | (intros; omega)
          · first | omega | assumption | (intros; omega)
          · rw [h2]; show _ = _ + (0 + znz _ x 0); rw [znz_x0]; omega
          · omega
    refine lp21 ((mem 67 1 - 1 : Int)).toNat.succ 0 1 ?_ ?_ ?_ ?_
    · first | omega | assumption | (intros; omega)
    · first | omega | assumption | (intros; omega)
    · show (0 : Int) = 0 + zcY _ ((0 : Nat) : Int) _; rw [show (((0 : Nat) : Int)) = 0 from rfl, znz_0]; rfl
    · omega
  · skip
    refine wp_aload_n dd_X11_without_10 rfl ?_
    refine wp_iconst dd_X11_without_11 (zr_lit rfl) ?_
    refine wp_callV (M' := mm_X11_no) (As := [zI (-1)]) (rest := []) dd_X11_without_12 lk_X11_120 mV_X11_no kk_67 (zlt rfl) ⟨_, _, rfl⟩ rfl (by decide) (by decide) (Nat.le_of_ble_eq_true rfl) rfl (sp_X11_no  (-1) (by first | assumption | omega) ?_)
    show zw_Wp l mm_X11_without (zS L) 15 [some (zR 67), some (zI a), some (zI b), none, none, none] [zI (-1)] (zu mem 68 (-(-1)) (zwr (mem 68 (-(-1)) + 1))) 0 0 Q
    refine wp_ireturn (st := []) dd_X11_without_15 rfl ?_
    exact k _ _ (Or.inl ⟨by omega, rfl, rfl⟩)

set_option maxRecDepth 100000 in
set_option maxHeartbeats 4000000 in
theorem sp_X11_root {l : Launch} {L : Nat} {mem : zMem} {Q : zQ}  (a : Int) (b : Int) (k0 : Int) (hp : zPr (mem 67 1)) (hn : 0 ≤ mem 67 5 ∧ mem 67 5 ≤ 6) (hTa : ∀ q : Int, 0 ≤ q → q < mem 67 5 → zT mem q) (k : ∀ (r : Int) (mem2 : zMem), ((¬ ((0 ≤ a ∧ a < mem 67 5) ∧ (0 ≤ b ∧ b < mem 67 5)) ∧ r = -1 ∧ mem2 = zno mem (-1)) ∨ (¬ ¬ ((0 ≤ a ∧ a < mem 67 5) ∧ (0 ≤ b ∧ b < mem 67 5)) ∧ ((k0 < -1 ∧ r = -4 ∧ mem2 = zno mem (-4)) ∨ (k0 = -1 ∧ r = zcX (zri (zco mem a) (zco mem b) (mem 67 1)) (mem 67 1) (mem 67 1).toNat ∧ mem2 = mem) ∨ (0 ≤ k0 ∧ r = zRX (zri (zco mem a) (zco mem b) (mem 67 1)) (mem 67 1) (mem 67 1).toNat k0 ∧ mem2 = mem)))) → Q (some (zI r)) (zS L) mem2) : zw_Ok l mm_X11_root [zR 67, zI a, zI b, zI k0] (zS L) mem Q := by
  refine zw_okA (fun hA => ?_)
  have rg_a : -2147483648 ≤ a ∧ a < 2147483648 := hA.2.1
  have rg_b : -2147483648 ≤ b ∧ b < 2147483648 := hA.2.2.1
  have rg_k0 : -2147483648 ≤ k0 ∧ k0 < 2147483648 := hA.2.2.2.1
  refine zw_enter (by decide) (Nat.le_of_ble_eq_true rfl) rfl ?_
  show zw_Wp l mm_X11_root (zS L) 0 [some (zR 67), some (zI a), some (zI b), some (zI k0), none, none, none] [] mem 0 0 Q
  have hpr := hp.rg
  refine wp_aload_n dd_X11_root_0 rfl ?_
  refine wp_iload_n dd_X11_root_1 rfl ?_
  refine wp_iload_n dd_X11_root_2 rfl ?_
  refine wp_iconst dd_X11_root_3 (zr_lit rfl) ?_
  refine wp_callV (M' := mm_X11_notTwo) (As := [zI a, zI b, zI 0]) (rest := []) dd_X11_root_4 lk_X11_170 mV_X11_notTwo kk_67 (zlt rfl) ⟨_, _, rfl⟩ rfl (by decide) (by decide) (Nat.le_of_ble_eq_true rfl) rfl (sp_X11_notTwo  a b 0 (by first | assumption | omega) ?_)
  show zw_Wp l mm_X11_root (zS L) 7 [some (zR 67), some (zI a), some (zI b), some (zI k0), none, none, none] [zI (if (0 ≤ a ∧ a < mem 67 5) ∧ (0 ≤ b ∧ b < mem 67 5) ∧ 0 ≤ 0 ∧ 0 ≤ 1 then 0 else -1)] mem 0 0 Q
  refine wp_if_eq (tgt := 16) dd_X11_root_7 (by decide) (fun c7_1 => ?_) (fun c7_1 => ?_)
  · skip
    refine wp_iload_n dd_X11_root_16 rfl ?_
    refine wp_iconst dd_X11_root_17 (zr_lit rfl) ?_
    refine wp_icmp_ge (tgt := 28) dd_X11_root_18 (by decide) (fun c18_2 => ?_) (fun c18_2 => ?_)
    · skip
      have hok : ((0 ≤ a ∧ a < mem 67 5) ∧ (0 ≤ b ∧ b < mem 67 5)) ∧ 0 ≤ 0 := by omega
      have hTx := hTa a (by omega) (by omega)
      have hTy := hTa b (by omega) (by omega)
      have h01 := zri_01 (zco mem a) (zco mem b) (mem 67 1)
      refine wp_iconst dd_X11_root_28 (zr_lit rfl) ?_
      refine wp_istore (ls2 := [some (zR 67), some (zI a), some (zI b), some (zI k0), some (zI 0), none, none]) dd_X11_root_29 rfl (by decide) rfl ?_
      refine wp_iconst dd_X11_root_31 (zr_lit rfl) ?_
      refine wp_istore (ls2 := [some (zR 67), some (zI a), some (zI b), some (zI k0), some (zI 0), some (zI 0), none]) dd_X11_root_32 rfl (by decide) rfl ?_
      have lp34 : ∀ (nf : Nat) (n : Int) (x : Int), (0 ≤ x) → (x ≤ mem 67 1) → (n = zcX (zri (zco mem a) (zco mem b) (mem 67 1)) (mem 67 1) x.toNat) → (0 ≤ k0 → n ≤ k0 ∧ zRX (zri (zco mem a) (zco mem b) (mem 67 1)) (mem 67 1) (mem 67 1 - x).toNat (k0 - n) = zRX (zri (zco mem a) (zco mem b) (mem 67 1)) (mem 67 1) (mem 67 1).toNat k0) → (mem 67 1 - x) < (nf : Int) → zw_Wp l mm_X11_root (zS L) 34 [some (zR 67), some (zI a), some (zI b), some (zI k0), some (zI n), some (zI x), none] [] mem 0 0 Q := by
        intro nf
        induction nf with
        | zero =>
          intro n x h0 h1 h2 hZ hmu
          exfalso; omega
        | succ nf ih34 =>
          intro n x h0 h1 h2 hZ hmu
          refine wp_iload dd_X11_root_34 rfl ?_
          refine wp_aload_n dd_X11_root_36 rfl ?_
          refine wp_getZ 1 rfl dd_X11_root_37 gf_X11_9 rfl kk_67 (by decide) (zlt rfl) ?_
          refine wp_icmp_ge (tgt := 101) dd_X11_root_40 (by decide) (fun c40_3 => ?_) (fun c40_3 => ?_)
          · skip
            refine wp_iload_n dd_X11_root_101 rfl ?_
            refine wp_if_ge (tgt := 110) dd_X11_root_102 (by decide) (fun c102_4 => ?_) (fun c102_4 => ?_)
            · skip
              refine wp_bipush dd_X11_root_110 (by decide) ?_
              refine wp_ireturn (st := []) dd_X11_root_112 rfl ?_
              obtain ⟨q1, q2⟩ := hZ (by omega)
              rw [show (mem 67 1 - x).toNat = 0 by omega] at q2
              exact k _ _ (Or.inr ⟨by omega, Or.inr (Or.inr ⟨by omega, q2, rfl⟩)⟩)
            · skip
              refine wp_iload dd_X11_root_105 rfl ?_
              refine wp_goto (tgt := 112) dd_X11_root_107 (by decide) ?_
              refine wp_ireturn (st := []) dd_X11_root_112 rfl ?_
              exact k _ _ (Or.inr ⟨by omega, Or.inr (Or.inl ⟨by omega, by rw [h2, show x = mem 67 1 by omega], rfl⟩)⟩)
          · skip
            refine wp_iconst dd_X11_root_43 (zr_lit rfl) ?_
            refine wp_istore (ls2 := [some (zR 67), some (zI a), some (zI b), some (zI k0), some (zI n), some (zI x), some (zI 0)]) dd_X11_root_44 rfl (by decide) rfl ?_
            have lp46 : ∀ (nf : Nat) (n : Int) (y : Int), (0 ≤ y) → (y ≤ mem 67 1) → (n = zcX (zri (zco mem a) (zco mem b) (mem 67 1)) (mem 67 1) x.toNat + zcY (zri (zco mem a) (zco mem b) (mem 67 1)) x y.toNat) → (0 ≤ k0 → n ≤ k0 ∧ zRY (zri (zco mem a) (zco mem b) (mem 67 1)) x (mem 67 1) (zRX (zri (zco mem a) (zco mem b) (mem 67 1)) (mem 67 1) (mem 67 1 - x - 1).toNat) (mem 67 1 - y).toNat (k0 - n) = zRX (zri (zco mem a) (zco mem b) (mem 67 1)) (mem 67 1) (mem 67 1).toNat k0) → (mem 67 1 - y) < (nf : Int) → zw_Wp l mm_X11_root (zS L) 46 [some (zR 67), some (zI a), some (zI b), some (zI k0), some (zI n), some (zI x), some (zI y)] [] mem 0 0 Q := by
              intro nf
              induction nf with
              | zero =>
                intro n y h4 h5 h3 hY hmu
                exfalso; omega
              | succ nf ih46 =>
                intro n y h4 h5 h3 hY hmu
                have hx9 := zcX_rg (p := mem 67 1) h01 (by omega) x.toNat
                have hy9 := zcY_rg (x := x) h01 y.toNat
                refine wp_iload dd_X11_root_46 rfl ?_
                refine wp_aload_n dd_X11_root_48 rfl ?_
                refine wp_getZ 1 rfl dd_X11_root_49 gf_X11_9 rfl kk_67 (by decide) (zlt rfl) ?_
                refine wp_icmp_ge (tgt := 95) dd_X11_root_52 (by decide) (fun c52_5 => ?_) (fun c52_5 => ?_)
                · skip
                  refine wp_iincC (ls2 := [some (zR 67), some (zI a), some (zI b), some (zI k0), some (zI n), some (zI (x + 1)), some (zI y)]) dd_X11_root_95 rfl rfl (by decide) (by omega) rfl ?_
                  refine wp_goto (tgt := 34) dd_X11_root_98 (by decide) ?_
                  refine wp_ls (zw_sub_of (a := [some (zR 67), some (zI a), some (zI b), some (zI k0), some (zI n), some (zI (x + 1)), none]) (And.intro rfl (And.intro rfl (And.intro rfl (And.intro rfl (And.intro rfl (And.intro rfl (trivial)))))))) ?_
                  refine ih34 n (x + 1) ?_ ?_ ?_ ?_ ?_
                  · first | omega | assumption | (intros; omega)
                  · first | omega | assumption | (intros; omega)
                  · rw [show (x + 1).toNat = x.toNat + 1 by omega, zcX, show ((x.toNat : Nat) : Int) = x by omega, h3, show y = mem 67 1 by omega]
                  · intro q
                    obtain ⟨q1, q2⟩ := hY q
                    refine ⟨q1, ?_⟩
                    rw [show (mem 67 1 - y).toNat = 0 by omega] at q2
                    rw [show mem 67 1 - (x + 1) = mem 67 1 - x - 1 by omega]; exact q2
                  · omega
                · skip
                  refine wp_aload_n dd_X11_root_55 rfl ?_
                  refine wp_iload_n dd_X11_root_56 rfl ?_
                  refine wp_iload_n dd_X11_root_57 rfl ?_
                  refine wp_iload dd_X11_root_58 rfl ?_
                  refine wp_iload dd_X11_root_60 rfl ?_
                  refine wp_callV (M' := mm_X11_isRoot) (As := [zI a, zI b, zI x, zI y]) (rest := []) dd_X11_root_62 lk_X11_264 mV_X11_isRoot kk_67 (zlt rfl) ⟨_, _, rfl⟩ rfl (by decide) (by decide) (Nat.le_of_ble_eq_true rfl) rfl (sp_X11_isRoot  a b x y (by first | assumption | omega) (by first | assumption | omega) (by first | assumption | omega) ?_)
                  show zw_Wp l mm_X11_root (zS L) 65 [some (zR 67), some (zI a), some (zI b), some (zI k0), some (zI n), some (zI x), some (zI y)] [zI (zri (zco mem a) (zco mem b) (mem 67 1) x y)] mem 0 0 Q
                  refine wp_if_ne (tgt := 71) dd_X11_root_65 (by decide) (fun c65_6 => ?_) (fun c65_6 => ?_)
                  · skip
                    refine wp_iload dd_X11_root_71 rfl ?_
                    refine wp_iload_n dd_X11_root_73 rfl ?_
                    refine wp_icmp_ne (tgt := 86) dd_X11_root_74 (by decide) (fun c74_7 => ?_) (fun c74_7 => ?_)
                    · skip
                      refine wp_iincC (ls2 := [some (zR 67), some (zI a), some (zI b), some (zI k0), some (zI (n + 1)), some (zI x), some (zI y)]) dd_X11_root_86 rfl rfl (by decide) (by omega) rfl ?_
                      refine wp_iincC (ls2 := [some (zR 67), some (zI a), some (zI b), some (zI k0), some (zI (n + 1)), some (zI x), some (zI (y + 1))]) dd_X11_root_89 rfl rfl (by decide) (by omega) rfl ?_
                      refine wp_goto (tgt := 46) dd_X11_root_92 (by decide) ?_
                      refine ih46 (n + 1) (y + 1) ?_ ?_ ?_ ?_ ?_
                      · first | omega | assumption | (intros; omega)
                      · first | omega | assumption | (intros; omega)
                      · rw [show (y + 1).toNat = y.toNat + 1 by omega, zcY, show ((y.toNat : Nat) : Int) = y by omega]
                        have hr9 := h01 x y
                        omega
                      · intro q
                        obtain ⟨q1, q2⟩ := hY q
                        rw [show (mem 67 1 - y).toNat = (mem 67 1 - (y + 1)).toNat + 1 by omega, zRY, show mem 67 1 - (((mem 67 1 - (y + 1)).toNat : Int) + 1) = y by omega] at q2
                        have hr9 := h01 x y
                        first
                        | (rw [if_pos (by omega)] at q2; exact ⟨q1, q2⟩)
                        | (rw [if_neg (by omega), if_neg (by omega)] at q2; refine ⟨by omega, ?_⟩; rw [show k0 - (n + 1) = k0 - n - 1 by omega]; exact q2)
                      · omega
                    · skip
                      refine wp_bipush dd_X11_root_77 (by decide) ?_
                      refine wp_iload dd_X11_root_79 rfl ?_
                      refine wp_imulC dd_X11_root_81 (by omega) ?_
                      refine wp_iload dd_X11_root_82 rfl ?_
                      refine wp_iaddC dd_X11_root_84 (by omega) ?_
                      refine wp_ireturn (st := []) dd_X11_root_85 rfl ?_
                      obtain ⟨q1, q2⟩ := hY (by omega)
                      rw [show (mem 67 1 - y).toNat = (mem 67 1 - (y + 1)).toNat + 1 by omega, zRY, show mem 67 1 - (((mem 67 1 - (y + 1)).toNat : Int) + 1) = y by omega, if_neg (by omega), if_pos (by omega)] at q2
                      exact k _ _ (Or.inr ⟨by omega, Or.inr (Or.inr ⟨by omega, q2, rfl⟩)⟩)
                  · skip
                    refine wp_goto (tgt := 89) dd_X11_root_68 (by decide) ?_
                    refine wp_iincC (ls2 := [some (zR 67), some (zI a), some (zI b), some (zI k0), some (zI n), some (zI x), some (zI (y + 1))]) dd_X11_root_89 rfl rfl (by decide) (by omega) rfl ?_
                    refine wp_goto (tgt := 46) dd_X11_root_92 (by decide) ?_
                    refine ih46 n (y + 1) ?_ ?_ ?_ ?_ ?_
                    · first | omega | assumption | (intros; omega)
                    · first | omega | assumption | (intros; omega)
                    · rw [show (y + 1).toNat = y.toNat + 1 by omega, zcY, show ((y.toNat : Nat) : Int) = y by omega]
                      have hr9 := h01 x y
                      omega
                    · intro q
                      obtain ⟨q1, q2⟩ := hY q
                      rw [show (mem 67 1 - y).toNat = (mem 67 1 - (y + 1)).toNat + 1 by omega, zRY, show mem 67 1 - (((mem 67 1 - (y + 1)).toNat : Int) + 1) = y by omega] at q2
                      have hr9 := h01 x y
                      first
                      | (rw [if_pos (by omega)] at q2; exact ⟨q1, q2⟩)
                      | (rw [if_neg (by omega), if_neg (by omega)] at q2; refine ⟨by omega, ?_⟩; rw [show k0 - (n + 1) = k0 - n - 1 by omega]; exact q2)
                    · omega
            refine lp46 ((mem 67 1 - 0 : Int)).toNat.succ n 0 ?_ ?_ ?_ ?_ ?_
            · first | omega | assumption | (intros; omega)
            · first | omega | assumption | (intros; omega)
            · rw [h2]; show _ = _ + 0; omega
            · intro q
              obtain ⟨q1, q2⟩ := hZ q
              refine ⟨q1, ?_⟩
              rw [show (mem 67 1 - x).toNat = (mem 67 1 - x - 1).toNat + 1 by omega, zRX, show mem 67 1 - (((mem 67 1 - x - 1).toNat : Int) + 1) = x by omega] at q2
              rw [Int.sub_zero]; exact q2
            · omega
      refine lp34 ((mem 67 1 - 0 : Int)).toNat.succ 0 0 ?_ ?_ ?_ ?_ ?_
      · first | omega | assumption | (intros; omega)
      · first | omega | assumption | (intros; omega)
      · rfl
      · intro q; exact ⟨q, by rw [Int.sub_zero, Int.sub_zero]⟩
      · omega
    · skip
      refine wp_aload_n dd_X11_root_21 rfl ?_
      refine wp_bipush dd_X11_root_22 (by decide) ?_
      refine wp_callV (M' := mm_X11_no) (As := [zI (-4)]) (rest := []) dd_X11_root_24 lk_X11_120 mV_X11_no kk_67 (zlt rfl) ⟨_, _, rfl⟩ rfl (by decide) (by decide) (Nat.le_of_ble_eq_true rfl) rfl (sp_X11_no  (-4) (by first | assumption | omega) ?_)
      show zw_Wp l mm_X11_root (zS L) 27 [some (zR 67), some (zI a), some (zI b), some (zI k0), none, none, none] [zI (-4)] (zu mem 68 (-(-4)) (zwr (mem 68 (-(-4)) + 1))) 0 0 Q
      refine wp_ireturn (st := []) dd_X11_root_27 rfl ?_
      exact k _ _ (Or.inr ⟨by omega, Or.inl ⟨by omega, rfl, rfl⟩⟩)
  · skip
    refine wp_aload_n dd_X11_root_10 rfl ?_
    refine wp_iconst dd_X11_root_11 (zr_lit rfl) ?_
    refine wp_callV (M' := mm_X11_no) (As := [zI (-1)]) (rest := []) dd_X11_root_12 lk_X11_120 mV_X11_no kk_67 (zlt rfl) ⟨_, _, rfl⟩ rfl (by decide) (by decide) (Nat.le_of_ble_eq_true rfl) rfl (sp_X11_no  (-1) (by first | assumption | omega) ?_)
    show zw_Wp l mm_X11_root (zS L) 15 [some (zR 67), some (zI a), some (zI b), some (zI k0), none, none, none] [zI (-1)] (zu mem 68 (-(-1)) (zwr (mem 68 (-(-1)) + 1))) 0 0 Q
    refine wp_ireturn (st := []) dd_X11_root_15 rfl ?_
    exact k _ _ (Or.inl ⟨by omega, rfl, rfl⟩)

set_option maxRecDepth 100000 in
set_option maxHeartbeats 4000000 in
theorem sp_X11_lifted {l : Launch} {L : Nat} {mem : zMem} {Q : zQ}  (a : Int) (b : Int) (le : Int) (hp : zPr (mem 67 1)) (hn : 0 ≤ mem 67 5 ∧ mem 67 5 ≤ 6) (hTa : ∀ q : Int, 0 ≤ q → q < mem 67 5 → zT mem q) (k : ∀ (r : Int) (mem2 : zMem), ((¬ ((0 ≤ a ∧ a < mem 67 5) ∧ (0 ≤ b ∧ b < mem 67 5) ∧ 0 ≤ le ∧ le ≤ 1) ∧ r = -1 ∧ mem2 = zno mem (-1)) ∨ (¬ ¬ ((0 ≤ a ∧ a < mem 67 5) ∧ (0 ≤ b ∧ b < mem 67 5) ∧ 0 ≤ le ∧ le ≤ 1) ∧ r = zbX (zri (zco mem a) (zco mem b) (mem 67 1)) le (mem 67 1) (mem 67 1).toNat ∧ mem2 = mem)) → Q (some (zI r)) (zS L) mem2) : zw_Ok l mm_X11_lifted [zR 67, zI a, zI b, zI le] (zS L) mem Q := by
  refine zw_okA (fun hA => ?_)
  have rg_a : -2147483648 ≤ a ∧ a < 2147483648 := hA.2.1
  have rg_b : -2147483648 ≤ b ∧ b < 2147483648 := hA.2.2.1
  have rg_le : -2147483648 ≤ le ∧ le < 2147483648 := hA.2.2.2.1
  refine zw_enter (by decide) (Nat.le_of_ble_eq_true rfl) rfl ?_
  show zw_Wp l mm_X11_lifted (zS L) 0 [some (zR 67), some (zI a), some (zI b), some (zI le), none, none, none] [] mem 0 0 Q
  have hpr := hp.rg
  refine wp_aload_n dd_X11_lifted_0 rfl ?_
  refine wp_iload_n dd_X11_lifted_1 rfl ?_
  refine wp_iload_n dd_X11_lifted_2 rfl ?_
  refine wp_iload_n dd_X11_lifted_3 rfl ?_
  refine wp_callV (M' := mm_X11_notTwo) (As := [zI a, zI b, zI le]) (rest := []) dd_X11_lifted_4 lk_X11_170 mV_X11_notTwo kk_67 (zlt rfl) ⟨_, _, rfl⟩ rfl (by decide) (by decide) (Nat.le_of_ble_eq_true rfl) rfl (sp_X11_notTwo  a b le (by first | assumption | omega) ?_)
  show zw_Wp l mm_X11_lifted (zS L) 7 [some (zR 67), some (zI a), some (zI b), some (zI le), none, none, none] [zI (if (0 ≤ a ∧ a < mem 67 5) ∧ (0 ≤ b ∧ b < mem 67 5) ∧ 0 ≤ le ∧ le ≤ 1 then 0 else -1)] mem 0 0 Q
  refine wp_if_eq (tgt := 16) dd_X11_lifted_7 (by decide) (fun c7_1 => ?_) (fun c7_1 => ?_)
  · skip
    have hok : ((0 ≤ a ∧ a < mem 67 5) ∧ (0 ≤ b ∧ b < mem 67 5)) ∧ 0 ≤ 0 := by omega
    have hTx := hTa a (by omega) (by omega)
    have hTy := hTa b (by omega) (by omega)
    have h01 := zri_01 (zco mem a) (zco mem b) (mem 67 1)
    refine wp_iconst dd_X11_lifted_16 (zr_lit rfl) ?_
    refine wp_istore (ls2 := [some (zR 67), some (zI a), some (zI b), some (zI le), some (zI 0), none, none]) dd_X11_lifted_17 rfl (by decide) rfl ?_
    refine wp_iconst dd_X11_lifted_19 (zr_lit rfl) ?_
    refine wp_istore (ls2 := [some (zR 67), some (zI a), some (zI b), some (zI le), some (zI 0), some (zI 0), none]) dd_X11_lifted_20 rfl (by decide) rfl ?_
    have lp22 : ∀ (nf : Nat) (s : Int) (x : Int), (0 ≤ x) → (x ≤ mem 67 1) → (s = zbX (zri (zco mem a) (zco mem b) (mem 67 1)) le (mem 67 1) x.toNat) → (mem 67 1 - x) < (nf : Int) → zw_Wp l mm_X11_lifted (zS L) 22 [some (zR 67), some (zI a), some (zI b), some (zI le), some (zI s), some (zI x), none] [] mem 0 0 Q := by
      intro nf
      induction nf with
      | zero =>
        intro s x h0 h1 h2 hmu
        exfalso; omega
      | succ nf ih22 =>
        intro s x h0 h1 h2 hmu
        refine wp_iload dd_X11_lifted_22 rfl ?_
        refine wp_aload_n dd_X11_lifted_24 rfl ?_
        refine wp_getZ 1 rfl dd_X11_lifted_25 gf_X11_9 rfl kk_67 (by decide) (zlt rfl) ?_
        refine wp_icmp_ge (tgt := 90) dd_X11_lifted_28 (by decide) (fun c28_2 => ?_) (fun c28_2 => ?_)
        · skip
          refine wp_iload dd_X11_lifted_90 rfl ?_
          refine wp_ireturn (st := []) dd_X11_lifted_92 rfl ?_
          exact k _ _ (Or.inr ⟨by omega, by rw [h2, show x = mem 67 1 by omega], rfl⟩)
        · skip
          refine wp_iconst dd_X11_lifted_31 (zr_lit rfl) ?_
          refine wp_istore (ls2 := [some (zR 67), some (zI a), some (zI b), some (zI le), some (zI s), some (zI x), some (zI 0)]) dd_X11_lifted_32 rfl (by decide) rfl ?_
          have lp34 : ∀ (nf : Nat) (s : Int) (y : Int), (0 ≤ y) → (y ≤ mem 67 1) → (s = zbY (zri (zco mem a) (zco mem b) (mem 67 1)) le x (zbX (zri (zco mem a) (zco mem b) (mem 67 1)) le (mem 67 1) x.toNat) y.toNat) → (mem 67 1 - y) < (nf : Int) → zw_Wp l mm_X11_lifted (zS L) 34 [some (zR 67), some (zI a), some (zI b), some (zI le), some (zI s), some (zI x), some (zI y)] [] mem 0 0 Q := by
            intro nf
            induction nf with
            | zero =>
              intro s y h4 h5 h3 hmu
              exfalso; omega
            | succ nf ih34 =>
              intro s y h4 h5 h3 hmu
              have hsr : zw_r32 s := by rw [h3]; exact zbY_rg (zbX_rg _) _
              have h2x := z2_le (n := x) (by omega)
              have h2y := z2_le (n := y) (by omega)
              refine wp_iload dd_X11_lifted_34 rfl ?_
              refine wp_aload_n dd_X11_lifted_36 rfl ?_
              refine wp_getZ 1 rfl dd_X11_lifted_37 gf_X11_9 rfl kk_67 (by decide) (zlt rfl) ?_
              refine wp_icmp_ge (tgt := 84) dd_X11_lifted_40 (by decide) (fun c40_3 => ?_) (fun c40_3 => ?_)
              · skip
                refine wp_iincC (ls2 := [some (zR 67), some (zI a), some (zI b), some (zI le), some (zI s), some (zI (x + 1)), some (zI y)]) dd_X11_lifted_84 rfl rfl (by decide) (by omega) rfl ?_
                refine wp_goto (tgt := 22) dd_X11_lifted_87 (by decide) ?_
                refine wp_ls (zw_sub_of (a := [some (zR 67), some (zI a), some (zI b), some (zI le), some (zI s), some (zI (x + 1)), none]) (And.intro rfl (And.intro rfl (And.intro rfl (And.intro rfl (And.intro rfl (And.intro rfl (trivial)))))))) ?_
                refine ih22 s (x + 1) ?_ ?_ ?_ ?_
                · first | omega | assumption | (intros; omega)
                · first | omega | assumption | (intros; omega)
                · rw [show (x + 1).toNat = x.toNat + 1 by omega, zbX, show ((x.toNat : Nat) : Int) = x by omega, h3, show y = mem 67 1 by omega]
                · omega
              · skip
                refine wp_iload dd_X11_lifted_43 rfl ?_
                refine wp_aload_n dd_X11_lifted_45 rfl ?_
                refine wp_iload_n dd_X11_lifted_46 rfl ?_
                refine wp_iload_n dd_X11_lifted_47 rfl ?_
                refine wp_iload dd_X11_lifted_48 rfl ?_
                refine wp_iload dd_X11_lifted_50 rfl ?_
                refine wp_callV (M' := mm_X11_isRoot) (As := [zI a, zI b, zI x, zI y]) (rest := [zI s]) dd_X11_lifted_52 lk_X11_264 mV_X11_isRoot kk_67 (zlt rfl) ⟨_, _, rfl⟩ rfl (by decide) (by decide) (Nat.le_of_ble_eq_true rfl) rfl (sp_X11_isRoot  a b x y (by first | assumption | omega) (by first | assumption | omega) (by first | assumption | omega) ?_)
                show zw_Wp l mm_X11_lifted (zS L) 55 [some (zR 67), some (zI a), some (zI b), some (zI le), some (zI s), some (zI x), some (zI y)] [zI (zri (zco mem a) (zco mem b) (mem 67 1) x y), zI s] mem 0 0 Q
                refine wp_if_eq (tgt := 74) dd_X11_lifted_55 (by decide) (fun c55_4 => ?_) (fun c55_4 => ?_)
                · skip
                  refine wp_iconst dd_X11_lifted_74 (zr_lit rfl) ?_
                  refine wp_ior dd_X11_lifted_75 ?_
                  refine wp_istore (ls2 := [some (zR 67), some (zI a), some (zI b), some (zI le), some (zI ((Int32.ofInt s ||| Int32.ofInt 0).toInt)), some (zI x), some (zI y)]) dd_X11_lifted_76 rfl (by decide) rfl ?_
                  refine wp_iincC (ls2 := [some (zR 67), some (zI a), some (zI b), some (zI le), some (zI ((Int32.ofInt s ||| Int32.ofInt 0).toInt)), some (zI x), some (zI (y + 1))]) dd_X11_lifted_78 rfl rfl (by decide) (by omega) rfl ?_
                  refine wp_goto (tgt := 34) dd_X11_lifted_81 (by decide) ?_
                  refine ih34 ((Int32.ofInt s ||| Int32.ofInt 0).toInt) (y + 1) ?_ ?_ ?_ ?_
                  · first | omega | assumption | (intros; omega)
                  · first | omega | assumption | (intros; omega)
                  · rw [show (y + 1).toNat = y.toNat + 1 by omega, zbY, show ((y.toNat : Nat) : Int) = y by omega, ← h3]
                    have hr9 := h01 x y
                    first
                    | (rw [if_pos (by omega)]; exact zbor_0 hsr)
                    | (rw [if_neg (by omega), if_pos (by omega)]; rfl)
                    | (rw [if_neg (by omega), if_neg (by omega)]; rfl)
                  · omega
                · skip
                  refine wp_iconst dd_X11_lifted_58 (zr_lit rfl) ?_
                  refine wp_iload_n dd_X11_lifted_59 rfl ?_
                  refine wp_if_ne (tgt := 68) dd_X11_lifted_60 (by decide) (fun c60_5 => ?_) (fun c60_5 => ?_)
                  · skip
                    refine wp_iload dd_X11_lifted_68 rfl ?_
                    refine wp_ishlP dd_X11_lifted_70 (by decide) (by omega) (h2x (by omega)).2 ?_
                    refine wp_goto (tgt := 75) dd_X11_lifted_71 (by decide) ?_
                    refine wp_ior dd_X11_lifted_75 ?_
                    refine wp_istore (ls2 := [some (zR 67), some (zI a), some (zI b), some (zI le), some (zI ((Int32.ofInt s ||| Int32.ofInt (1 * 2 ^ x.toNat)).toInt)), some (zI x), some (zI y)]) dd_X11_lifted_76 rfl (by decide) rfl ?_
                    refine wp_iincC (ls2 := [some (zR 67), some (zI a), some (zI b), some (zI le), some (zI ((Int32.ofInt s ||| Int32.ofInt (1 * 2 ^ x.toNat)).toInt)), some (zI x), some (zI (y + 1))]) dd_X11_lifted_78 rfl rfl (by decide) (by omega) rfl ?_
                    refine wp_goto (tgt := 34) dd_X11_lifted_81 (by decide) ?_
                    refine ih34 ((Int32.ofInt s ||| Int32.ofInt (1 * 2 ^ x.toNat)).toInt) (y + 1) ?_ ?_ ?_ ?_
                    · first | omega | assumption | (intros; omega)
                    · first | omega | assumption | (intros; omega)
                    · rw [show (y + 1).toNat = y.toNat + 1 by omega, zbY, show ((y.toNat : Nat) : Int) = y by omega, ← h3]
                      have hr9 := h01 x y
                      first
                      | (rw [if_pos (by omega)]; exact zbor_0 hsr)
                      | (rw [if_neg (by omega), if_pos (by omega)]; rfl)
                      | (rw [if_neg (by omega), if_neg (by omega)]; rfl)
                    · omega
                  · skip
                    refine wp_iload dd_X11_lifted_63 rfl ?_
                    refine wp_goto (tgt := 70) dd_X11_lifted_65 (by decide) ?_
                    refine wp_ishlP dd_X11_lifted_70 (by decide) (by omega) (h2y (by omega)).2 ?_
                    refine wp_goto (tgt := 75) dd_X11_lifted_71 (by decide) ?_
                    refine wp_ior dd_X11_lifted_75 ?_
                    refine wp_istore (ls2 := [some (zR 67), some (zI a), some (zI b), some (zI le), some (zI ((Int32.ofInt s ||| Int32.ofInt (1 * 2 ^ y.toNat)).toInt)), some (zI x), some (zI y)]) dd_X11_lifted_76 rfl (by decide) rfl ?_
                    refine wp_iincC (ls2 := [some (zR 67), some (zI a), some (zI b), some (zI le), some (zI ((Int32.ofInt s ||| Int32.ofInt (1 * 2 ^ y.toNat)).toInt)), some (zI x), some (zI (y + 1))]) dd_X11_lifted_78 rfl rfl (by decide) (by omega) rfl ?_
                    refine wp_goto (tgt := 34) dd_X11_lifted_81 (by decide) ?_
                    refine ih34 ((Int32.ofInt s ||| Int32.ofInt (1 * 2 ^ y.toNat)).toInt) (y + 1) ?_ ?_ ?_ ?_
                    · first | omega | assumption | (intros; omega)
                    · first | omega | assumption | (intros; omega)
                    · rw [show (y + 1).toNat = y.toNat + 1 by omega, zbY, show ((y.toNat : Nat) : Int) = y by omega, ← h3]
                      have hr9 := h01 x y
                      first
                      | (rw [if_pos (by omega)]; exact zbor_0 hsr)
                      | (rw [if_neg (by omega), if_pos (by omega)]; rfl)
                      | (rw [if_neg (by omega), if_neg (by omega)]; rfl)
                    · omega
          refine lp34 ((mem 67 1 - 0 : Int)).toNat.succ s 0 ?_ ?_ ?_ ?_
          · first | omega | assumption | (intros; omega)
          · first | omega | assumption | (intros; omega)
          · exact h2
          · omega
    refine lp22 ((mem 67 1 - 0 : Int)).toNat.succ 0 0 ?_ ?_ ?_ ?_
    · first | omega | assumption | (intros; omega)
    · first | omega | assumption | (intros; omega)
    · rfl
    · omega
  · skip
    refine wp_aload_n dd_X11_lifted_10 rfl ?_
    refine wp_iconst dd_X11_lifted_11 (zr_lit rfl) ?_
    refine wp_callV (M' := mm_X11_no) (As := [zI (-1)]) (rest := []) dd_X11_lifted_12 lk_X11_120 mV_X11_no kk_67 (zlt rfl) ⟨_, _, rfl⟩ rfl (by decide) (by decide) (Nat.le_of_ble_eq_true rfl) rfl (sp_X11_no  (-1) (by first | assumption | omega) ?_)
    show zw_Wp l mm_X11_lifted (zS L) 15 [some (zR 67), some (zI a), some (zI b), some (zI le), none, none, none] [zI (-1)] (zu mem 68 (-(-1)) (zwr (mem 68 (-(-1)) + 1))) 0 0 Q
    refine wp_ireturn (st := []) dd_X11_lifted_15 rfl ?_
    exact k _ _ (Or.inl ⟨by omega, rfl, rfl⟩)

