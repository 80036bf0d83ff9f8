/-! ===== the reference: reading of polynomials ===== -/
theorem zco_at {mem : zMem} {q i j : Int} (hi : 0 ≤ i ∧ i ≤ 4) (hj : 0 ≤ j ∧ j ≤ 4) : zcf (mem 70 q) (mem 71 q) (mem 67 1) (ztd mem q) i j = zco mem q (5 * i + j) := by
  unfold zco
  rw [show (5 * i + j) / 5 = i by omega, show (5 * i + j) % 5 = j by omega]
/-- the value: all terms, one by one -/
def zvs (c : Int → Int) (x y p : Int) : Nat → Int
  | 0 => 0
  | t + 1 => (zvs c x y p t + c t * (x ^ ((t : Int) / 5).toNat % p) % p * (y ^ ((t : Int) % 5).toNat % p)) % p
theorem zvs_rg {c : Int → Int} {x y p : Int} (hp : 0 < p) : ∀ t, 0 ≤ zvs c x y p t ∧ zvs c x y p t < p
  | 0 => ⟨Int.le_refl 0, hp⟩
  | t + 1 => zm_rg hp
def zno (mem : zMem) (w : Int) : zMem := zu mem 68 (-w) (zwr (mem 68 (-w) + 1))
def zis (mem : zMem) (q : Int) : Prop := 0 ≤ q ∧ q < mem 67 5
def zng (mem : zMem) (q : Int) : Prop := zdeg (zco mem q) 0 25 < 0
noncomputable def zw_dec (p : Prop) : Decidable p := Classical.propDecidable p

set_option maxRecDepth 100000 in
set_option maxHeartbeats 4000000 in
theorem sp_X11_degreeOf {l : Launch} {L : Nat} {mem : zMem} {Q : zQ}  (q : Int) (b : Int) (hp : zPr (mem 67 1)) (hT : zT mem q) (hb : b = 0 ∨ b = 1 ∨ b = 2) (k : Q (some (zI (zdeg (zco mem q) b 25))) (zS L) mem) : zw_Ok l mm_X11_degreeOf [zR 67, zI q, zI b] (zS L) mem Q := by
  refine zw_okA (fun hA => ?_)
  have rg_q : -2147483648 ≤ q ∧ q < 2147483648 := hA.2.1
  have rg_b : -2147483648 ≤ b ∧ b < 2147483648 := hA.2.2.1
  refine zw_enter (by decide) (Nat.le_of_ble_eq_true rfl) rfl ?_
  show zw_Wp l mm_X11_degreeOf (zS L) 0 [some (zR 67), some (zI q), some (zI b), none, none, none, none, none] [] mem 0 0 Q
  have hpr := hp.rg
  refine wp_bipush dd_X11_degreeOf_0 (by decide) ?_
  refine wp_istore_n (ls2 := [some (zR 67), some (zI q), some (zI b), some (zI (-9)), none, none, none, none]) dd_X11_degreeOf_2 rfl (by decide) rfl ?_
  refine wp_iconst dd_X11_degreeOf_3 (zr_lit rfl) ?_
  refine wp_istore (ls2 := [some (zR 67), some (zI q), some (zI b), some (zI (-9)), some (zI 0), none, none, none]) dd_X11_degreeOf_4 rfl (by decide) rfl ?_
  have lp6 : ∀ (nf : Nat) (g : Int) (t : Int), (0 ≤ t) → (t ≤ 25) → (g = zdeg (zco mem q) b t.toNat) → (25 - t) < (nf : Int) → zw_Wp l mm_X11_degreeOf (zS L) 6 [some (zR 67), some (zI q), some (zI b), some (zI g), some (zI t), none, none, none] [] mem 0 0 Q := by
    intro nf
    induction nf with
    | zero =>
      intro g t h0 h1 h2 hmu
      exfalso; omega
    | succ nf ih6 =>
      intro g t h0 h1 h2 hmu
      have hg := zdg_rg (zdeg_P (zco mem q) b t.toNat (by omega))
      rw [← h2] at hg
      refine wp_iload dd_X11_degreeOf_6 rfl ?_
      refine wp_bipush dd_X11_degreeOf_8 (by decide) ?_
      refine wp_icmp_ge (tgt := 82) dd_X11_degreeOf_10 (by decide) (fun c10_1 => ?_) (fun c10_1 => ?_)
      · skip
        refine wp_iload_n dd_X11_degreeOf_82 rfl ?_
        refine wp_ireturn (st := []) dd_X11_degreeOf_83 rfl ?_
        refine zq_I ?_ ?_ k
        · rw [h2, show t.toNat = 25 by omega]
        · rfl
      · skip
        refine wp_iload dd_X11_degreeOf_13 rfl ?_
        refine wp_iconst dd_X11_degreeOf_15 (zr_lit rfl) ?_
        refine wp_idivP dd_X11_degreeOf_16 (by omega) (by omega) ?_
        refine wp_istore (ls2 := [some (zR 67), some (zI q), some (zI b), some (zI g), some (zI t), some (zI (t / 5)), none, none]) dd_X11_degreeOf_17 rfl (by decide) rfl ?_
        refine wp_iload dd_X11_degreeOf_19 rfl ?_
        refine wp_iconst dd_X11_degreeOf_21 (zr_lit rfl) ?_
        refine wp_iremP dd_X11_degreeOf_22 (by omega) (by omega) ?_
        refine wp_istore (ls2 := [some (zR 67), some (zI q), some (zI b), some (zI g), some (zI t), some (zI (t / 5)), some (zI (t % 5)), none]) dd_X11_degreeOf_23 rfl (by decide) rfl ?_
        refine wp_iload_n dd_X11_degreeOf_25 rfl ?_
        refine wp_if_ne (tgt := 34) dd_X11_degreeOf_26 (by decide) (fun c26_2 => ?_) (fun c26_2 => ?_)
        · skip
          refine wp_iload_n dd_X11_degreeOf_34 rfl ?_
          refine wp_iconst dd_X11_degreeOf_35 (zr_lit rfl) ?_
          refine wp_icmp_ne (tgt := 44) dd_X11_degreeOf_36 (by decide) (fun c36_3 => ?_) (fun c36_3 => ?_)
          · skip
            refine wp_iload dd_X11_degreeOf_44 rfl ?_
            refine wp_iload dd_X11_degreeOf_46 rfl ?_
            refine wp_iaddC dd_X11_degreeOf_48 (by omega) ?_
            refine wp_istore (ls2 := [some (zR 67), some (zI q), some (zI b), some (zI g), some (zI t), some (zI (t / 5)), some (zI (t % 5)), some (zI ((t / 5) + (t % 5)))]) dd_X11_degreeOf_49 rfl (by decide) rfl ?_
            have hvv : zvv b (t / 5) (t % 5) = (t / 5) + (t % 5) := by unfold zvv; omega
            refine wp_iload dd_X11_degreeOf_51 rfl ?_
            refine wp_iload_n dd_X11_degreeOf_53 rfl ?_
            refine wp_icmp_le (tgt := 74) dd_X11_degreeOf_54 (by decide) (fun c54_4 => ?_) (fun c54_4 => ?_)
            · skip
              refine wp_iload_n dd_X11_degreeOf_74 rfl ?_
              refine wp_istore_n (ls2 := [some (zR 67), some (zI q), some (zI b), some (zI g), some (zI t), some (zI (t / 5)), some (zI (t % 5)), some (zI ((t / 5) + (t % 5)))]) dd_X11_degreeOf_75 rfl (by decide) rfl ?_
              refine wp_iincC (ls2 := [some (zR 67), some (zI q), some (zI b), some (zI g), some (zI (t + 1)), some (zI (t / 5)), some (zI (t % 5)), some (zI ((t / 5) + (t % 5)))]) dd_X11_degreeOf_76 rfl rfl (by decide) (by omega) rfl ?_
              refine wp_goto (tgt := 6) dd_X11_degreeOf_79 (by decide) ?_
              refine wp_ls (zw_sub_of (a := [some (zR 67), some (zI q), some (zI b), some (zI g), some (zI (t + 1)), none, none, none]) (And.intro rfl (And.intro rfl (And.intro rfl (And.intro rfl (And.intro rfl (trivial))))))) ?_
              refine ih6 g (t + 1) ?_ ?_ ?_ ?_
              · first | omega | assumption | (intros; omega)
              · first | omega | assumption | (intros; omega)
              · rw [show (t + 1).toNat = t.toNat + 1 by omega, zdeg, show ((t.toNat : Nat) : Int) = t by omega]
                first
                | (rw [if_pos ⟨by omega, by assumption⟩]; unfold zvv; omega)
                | (rw [if_neg (fun q => by have := q.1; omega)]; exact h2)
                | (rw [if_neg (fun q => q.2 (by assumption))]; exact h2)
              · omega
            · skip
              refine wp_aload_n dd_X11_degreeOf_57 rfl ?_
              refine wp_iload_n dd_X11_degreeOf_58 rfl ?_
              refine wp_iload dd_X11_degreeOf_59 rfl ?_
              refine wp_iload dd_X11_degreeOf_61 rfl ?_
              refine wp_callV (M' := mm_X11_isTerm) (As := [zI q, zI (t / 5), zI (t % 5)]) (rest := []) dd_X11_degreeOf_63 lk_X11_111 mV_X11_isTerm kk_67 (zlt rfl) ⟨_, _, rfl⟩ rfl (by decide) (by decide) (Nat.le_of_ble_eq_true rfl) rfl (sp_X11_isTerm  q (t / 5) (t % 5) (by first | assumption | omega) (by first | assumption | omega) (by first | assumption | omega) (by first | assumption | omega) ?_)
              show zw_Wp l mm_X11_degreeOf (zS L) 66 [some (zR 67), some (zI q), some (zI b), some (zI g), some (zI t), some (zI (t / 5)), some (zI (t % 5)), some (zI ((t / 5) + (t % 5)))] [zI (if zcf (mem 70 q) (mem 71 q) (mem 67 1) (ztd mem q) (t / 5) (t % 5) = 0 then 0 else 1)] mem 0 0 Q
              refine wp_if_eq (tgt := 74) dd_X11_degreeOf_66 (by decide) (fun c66_5 => ?_) (fun c66_5 => ?_)
              · skip
                have hz : zco mem q t = 0 := by
                  by_cases z : zcf (mem 70 q) (mem 71 q) (mem 67 1) (ztd mem q) (t / 5) (t % 5) = 0
                  · exact z
                  · rw [if_neg z] at c66_5; omega
                refine wp_iload_n dd_X11_degreeOf_74 rfl ?_
                refine wp_istore_n (ls2 := [some (zR 67), some (zI q), some (zI b), some (zI g), some (zI t), some (zI (t / 5)), some (zI (t % 5)), some (zI ((t / 5) + (t % 5)))]) dd_X11_degreeOf_75 rfl (by decide) rfl ?_
                refine wp_iincC (ls2 := [some (zR 67), some (zI q), some (zI b), some (zI g), some (zI (t + 1)), some (zI (t / 5)), some (zI (t % 5)), some (zI ((t / 5) + (t % 5)))]) dd_X11_degreeOf_76 rfl rfl (by decide) (by omega) rfl ?_
                refine wp_goto (tgt := 6) dd_X11_degreeOf_79 (by decide) ?_
                refine wp_ls (zw_sub_of (a := [some (zR 67), some (zI q), some (zI b), some (zI g), some (zI (t + 1)), none, none, none]) (And.intro rfl (And.intro rfl (And.intro rfl (And.intro rfl (And.intro rfl (trivial))))))) ?_
                refine ih6 g (t + 1) ?_ ?_ ?_ ?_
                · first | omega | assumption | (intros; omega)
                · first | omega | assumption | (intros; omega)
                · rw [show (t + 1).toNat = t.toNat + 1 by omega, zdeg, show ((t.toNat : Nat) : Int) = t by omega]
                  first
                  | (rw [if_pos ⟨by omega, by assumption⟩]; unfold zvv; omega)
                  | (rw [if_neg (fun q => by have := q.1; omega)]; exact h2)
                  | (rw [if_neg (fun q => q.2 (by assumption))]; exact h2)
                · omega
              · skip
                have hz : zco mem q t ≠ 0 := fun z => c66_5 (by rw [if_pos (show zcf (mem 70 q) (mem 71 q) (mem 67 1) (ztd mem q) (t / 5) (t % 5) = 0 from z)])
                refine wp_iload dd_X11_degreeOf_69 rfl ?_
                refine wp_goto (tgt := 75) dd_X11_degreeOf_71 (by decide) ?_
                refine wp_istore_n (ls2 := [some (zR 67), some (zI q), some (zI b), some (zI ((t / 5) + (t % 5))), some (zI t), some (zI (t / 5)), some (zI (t % 5)), some (zI ((t / 5) + (t % 5)))]) dd_X11_degreeOf_75 rfl (by decide) rfl ?_
                refine wp_iincC (ls2 := [some (zR 67), some (zI q), some (zI b), some (zI ((t / 5) + (t % 5))), some (zI (t + 1)), some (zI (t / 5)), some (zI (t % 5)), some (zI ((t / 5) + (t % 5)))]) dd_X11_degreeOf_76 rfl rfl (by decide) (by omega) rfl ?_
                refine wp_goto (tgt := 6) dd_X11_degreeOf_79 (by decide) ?_
                refine wp_ls (zw_sub_of (a := [some (zR 67), some (zI q), some (zI b), some (zI ((t / 5) + (t % 5))), some (zI (t + 1)), none, none, none]) (And.intro rfl (And.intro rfl (And.intro rfl (And.intro rfl (And.intro rfl (trivial))))))) ?_
                refine ih6 ((t / 5) + (t % 5)) (t + 1) ?_ ?_ ?_ ?_
                · first | omega | assumption | (intros; omega)
                · first | omega | assumption | (intros; omega)
                · rw [show (t + 1).toNat = t.toNat + 1 by omega, zdeg, show ((t.toNat : Nat) : Int) = t by omega]
                  first
                  | (rw [if_pos ⟨by omega, by assumption⟩]; unfold zvv; omega)
                  | (rw [if_neg (fun q => by have := q.1; omega)]; exact h2)
                  | (rw [if_neg (fun q => q.2 (by assumption))]; exact h2)
                · omega
          · skip
            refine wp_iload dd_X11_degreeOf_39 rfl ?_
            refine wp_goto (tgt := 49) dd_X11_degreeOf_41 (by decide) ?_
            refine wp_istore (ls2 := [some (zR 67), some (zI q), some (zI b), some (zI g), some (zI t), some (zI (t / 5)), some (zI (t % 5)), some (zI (t % 5))]) dd_X11_degreeOf_49 rfl (by decide) rfl ?_
            have hvv : zvv b (t / 5) (t % 5) = t % 5 := by unfold zvv; omega
            refine wp_iload dd_X11_degreeOf_51 rfl ?_
            refine wp_iload_n dd_X11_degreeOf_53 rfl ?_
            refine wp_icmp_le (tgt := 74) dd_X11_degreeOf_54 (by decide) (fun c54_6 => ?_) (fun c54_6 => ?_)
            · skip
              refine wp_iload_n dd_X11_degreeOf_74 rfl ?_
              refine wp_istore_n (ls2 := [some (zR 67), some (zI q), some (zI b), some (zI g), some (zI t), some (zI (t / 5)), some (zI (t % 5)), some (zI (t % 5))]) dd_X11_degreeOf_75 rfl (by decide) rfl ?_
              refine wp_iincC (ls2 := [some (zR 67), some (zI q), some (zI b), some (zI g), some (zI (t + 1)), some (zI (t / 5)), some (zI (t % 5)), some (zI (t % 5))]) dd_X11_degreeOf_76 rfl rfl (by decide) (by omega) rfl ?_
              refine wp_goto (tgt := 6) dd_X11_degreeOf_79 (by decide) ?_
              refine wp_ls (zw_sub_of (a := [some (zR 67), some (zI q), some (zI b), some (zI g), some (zI (t + 1)), none, none, none]) (And.intro rfl (And.intro rfl (And.intro rfl (And.intro rfl (And.intro rfl (trivial))))))) ?_
              refine ih6 g (t + 1) ?_ ?_ ?_ ?_
              · first | omega | assumption | (intros; omega)
              · first | omega | assumption | (intros; omega)
              · rw [show (t + 1).toNat = t.toNat + 1 by omega, zdeg, show ((t.toNat : Nat) : Int) = t by omega]
                first
                | (rw [if_pos ⟨by omega, by assumption⟩]; unfold zvv; omega)
                | (rw [if_neg (fun q => by have := q.1; omega)]; exact h2)
                | (rw [if_neg (fun q => q.2 (by assumption))]; exact h2)
              · omega
            · skip
              refine wp_aload_n dd_X11_degreeOf_57 rfl ?_
              refine wp_iload_n dd_X11_degreeOf_58 rfl ?_
              refine wp_iload dd_X11_degreeOf_59 rfl ?_
              refine wp_iload dd_X11_degreeOf_61 rfl ?_
              refine wp_callV (M' := mm_X11_isTerm) (As := [zI q, zI (t / 5), zI (t % 5)]) (rest := []) dd_X11_degreeOf_63 lk_X11_111 mV_X11_isTerm kk_67 (zlt rfl) ⟨_, _, rfl⟩ rfl (by decide) (by decide) (Nat.le_of_ble_eq_true rfl) rfl (sp_X11_isTerm  q (t / 5) (t % 5) (by first | assumption | omega) (by first | assumption | omega) (by first | assumption | omega) (by first | assumption | omega) ?_)
              show zw_Wp l mm_X11_degreeOf (zS L) 66 [some (zR 67), some (zI q), some (zI b), some (zI g), some (zI t), some (zI (t / 5)), some (zI (t % 5)), some (zI (t % 5))] [zI (if zcf (mem 70 q) (mem 71 q) (mem 67 1) (ztd mem q) (t / 5) (t % 5) = 0 then 0 else 1)] mem 0 0 Q
              refine wp_if_eq (tgt := 74) dd_X11_degreeOf_66 (by decide) (fun c66_7 => ?_) (fun c66_7 => ?_)
              · skip
                have hz : zco mem q t = 0 := by
                  by_cases z : zcf (mem 70 q) (mem 71 q) (mem 67 1) (ztd mem q) (t / 5) (t % 5) = 0
                  · exact z
                  · rw [if_neg z] at c66_7; omega
                refine wp_iload_n dd_X11_degreeOf_74 rfl ?_
                refine wp_istore_n (ls2 := [some (zR 67), some (zI q), some (zI b), some (zI g), some (zI t), some (zI (t / 5)), some (zI (t % 5)), some (zI (t % 5))]) dd_X11_degreeOf_75 rfl (by decide) rfl ?_
                refine wp_iincC (ls2 := [some (zR 67), some (zI q), some (zI b), some (zI g), some (zI (t + 1)), some (zI (t / 5)), some (zI (t % 5)), some (zI (t % 5))]) dd_X11_degreeOf_76 rfl rfl (by decide) (by omega) rfl ?_
                refine wp_goto (tgt := 6) dd_X11_degreeOf_79 (by decide) ?_
                refine wp_ls (zw_sub_of (a := [some (zR 67), some (zI q), some (zI b), some (zI g), some (zI (t + 1)), none, none, none]) (And.intro rfl (And.intro rfl (And.intro rfl (And.intro rfl (And.intro rfl (trivial))))))) ?_
                refine ih6 g (t + 1) ?_ ?_ ?_ ?_
                · first | omega | assumption | (intros; omega)
                · first | omega | assumption | (intros; omega)
                · rw [show (t + 1).toNat = t.toNat + 1 by omega, zdeg, show ((t.toNat : Nat) : Int) = t by omega]
                  first
                  | (rw [if_pos ⟨by omega, by assumption⟩]; unfold zvv; omega)
                  | (rw [if_neg (fun q => by have := q.1; omega)]; exact h2)
                  | (rw [if_neg (fun q => q.2 (by assumption))]; exact h2)
                · omega
              · skip
                have hz : zco mem q t ≠ 0 := fun z => c66_7 (by rw [if_pos (show zcf (mem 70 q) (mem 71 q) (mem 67 1) (ztd mem q) (t / 5) (t % 5) = 0 from z)])
                refine wp_iload dd_X11_degreeOf_69 rfl ?_
                refine wp_goto (tgt := 75) dd_X11_degreeOf_71 (by decide) ?_
                refine wp_istore_n (ls2 := [some (zR 67), some (zI q), some (zI b), some (zI (t % 5)), some (zI t), some (zI (t / 5)), some (zI (t % 5)), some (zI (t % 5))]) dd_X11_degreeOf_75 rfl (by decide) rfl ?_
                refine wp_iincC (ls2 := [some (zR 67), some (zI q), some (zI b), some (zI (t % 5)), some (zI (t + 1)), some (zI (t / 5)), some (zI (t % 5)), some (zI (t % 5))]) dd_X11_degreeOf_76 rfl rfl (by decide) (by omega) rfl ?_
                refine wp_goto (tgt := 6) dd_X11_degreeOf_79 (by decide) ?_
                refine wp_ls (zw_sub_of (a := [some (zR 67), some (zI q), some (zI b), some (zI (t % 5)), some (zI (t + 1)), none, none, none]) (And.intro rfl (And.intro rfl (And.intro rfl (And.intro rfl (And.intro rfl (trivial))))))) ?_
                refine ih6 (t % 5) (t + 1) ?_ ?_ ?_ ?_
                · first | omega | assumption | (intros; omega)
                · first | omega | assumption | (intros; omega)
                · rw [show (t + 1).toNat = t.toNat + 1 by omega, zdeg, show ((t.toNat : Nat) : Int) = t by omega]
                  first
                  | (rw [if_pos ⟨by omega, by assumption⟩]; unfold zvv; omega)
                  | (rw [if_neg (fun q => by have := q.1; omega)]; exact h2)
                  | (rw [if_neg (fun q => q.2 (by assumption))]; exact h2)
                · omega
        · skip
          refine wp_iload dd_X11_degreeOf_29 rfl ?_
          refine wp_goto (tgt := 49) dd_X11_degreeOf_31 (by decide) ?_
          refine wp_istore (ls2 := [some (zR 67), some (zI q), some (zI b), some (zI g), some (zI t), some (zI (t / 5)), some (zI (t % 5)), some (zI (t / 5))]) dd_X11_degreeOf_49 rfl (by decide) rfl ?_
          have hvv : zvv b (t / 5) (t % 5) = t / 5 := by unfold zvv; omega
          refine wp_iload dd_X11_degreeOf_51 rfl ?_
          refine wp_iload_n dd_X11_degreeOf_53 rfl ?_
          refine wp_icmp_le (tgt := 74) dd_X11_degreeOf_54 (by decide) (fun c54_8 => ?_) (fun c54_8 => ?_)
          · skip
            refine wp_iload_n dd_X11_degreeOf_74 rfl ?_
            refine wp_istore_n (ls2 := [some (zR 67), some (zI q), some (zI b), some (zI g), some (zI t), some (zI (t / 5)), some (zI (t % 5)), some (zI (t / 5))]) dd_X11_degreeOf_75 rfl (by decide) rfl ?_
            refine wp_iincC (ls2 := [some (zR 67), some (zI q), some (zI b), some (zI g), some (zI (t + 1)), some (zI (t / 5)), some (zI (t % 5)), some (zI (t / 5))]) dd_X11_degreeOf_76 rfl rfl (by decide) (by omega) rfl ?_
            refine wp_goto (tgt := 6) dd_X11_degreeOf_79 (by decide) ?_
            refine wp_ls (zw_sub_of (a := [some (zR 67), some (zI q), some (zI b), some (zI g), some (zI (t + 1)), none, none, none]) (And.intro rfl (And.intro rfl (And.intro rfl (And.intro rfl (And.intro rfl (trivial))))))) ?_
            refine ih6 g (t + 1) ?_ ?_ ?_ ?_
            · first | omega | assumption | (intros; omega)
            · first | omega | assumption | (intros; omega)
            · rw [show (t + 1).toNat = t.toNat + 1 by omega, zdeg, show ((t.toNat : Nat) : Int) = t by omega]
              first
              | (rw [if_pos ⟨by omega, by assumption⟩]; unfold zvv; omega)
              | (rw [if_neg (fun q => by have := q.1; omega)]; exact h2)
              | (rw [if_neg (fun q => q.2 (by assumption))]; exact h2)
            · omega
          · skip
            refine wp_aload_n dd_X11_degreeOf_57 rfl ?_
            refine wp_iload_n dd_X11_degreeOf_58 rfl ?_
            refine wp_iload dd_X11_degreeOf_59 rfl ?_
            refine wp_iload dd_X11_degreeOf_61 rfl ?_
            refine wp_callV (M' := mm_X11_isTerm) (As := [zI q, zI (t / 5), zI (t % 5)]) (rest := []) dd_X11_degreeOf_63 lk_X11_111 mV_X11_isTerm kk_67 (zlt rfl) ⟨_, _, rfl⟩ rfl (by decide) (by decide) (Nat.le_of_ble_eq_true rfl) rfl (sp_X11_isTerm  q (t / 5) (t % 5) (by first | assumption | omega) (by first | assumption | omega) (by first | assumption | omega) (by first | assumption | omega) ?_)
            show zw_Wp l mm_X11_degreeOf (zS L) 66 [some (zR 67), some (zI q), some (zI b), some (zI g), some (zI t), some (zI (t / 5)), some (zI (t % 5)), some (zI (t / 5))] [zI (if zcf (mem 70 q) (mem 71 q) (mem 67 1) (ztd mem q) (t / 5) (t % 5) = 0 then 0 else 1)] mem 0 0 Q
            refine wp_if_eq (tgt := 74) dd_X11_degreeOf_66 (by decide) (fun c66_9 => ?_) (fun c66_9 => ?_)
            · skip
              have hz : zco mem q t = 0 := by
                by_cases z : zcf (mem 70 q) (mem 71 q) (mem 67 1) (ztd mem q) (t / 5) (t % 5) = 0
                · exact z
                · rw [if_neg z] at c66_9; omega
              refine wp_iload_n dd_X11_degreeOf_74 rfl ?_
              refine wp_istore_n (ls2 := [some (zR 67), some (zI q), some (zI b), some (zI g), some (zI t), some (zI (t / 5)), some (zI (t % 5)), some (zI (t / 5))]) dd_X11_degreeOf_75 rfl (by decide) rfl ?_
              refine wp_iincC (ls2 := [some (zR 67), some (zI q), some (zI b), some (zI g), some (zI (t + 1)), some (zI (t / 5)), some (zI (t % 5)), some (zI (t / 5))]) dd_X11_degreeOf_76 rfl rfl (by decide) (by omega) rfl ?_
              refine wp_goto (tgt := 6) dd_X11_degreeOf_79 (by decide) ?_
              refine wp_ls (zw_sub_of (a := [some (zR 67), some (zI q), some (zI b), some (zI g), some (zI (t + 1)), none, none, none]) (And.intro rfl (And.intro rfl (And.intro rfl (And.intro rfl (And.intro rfl (trivial))))))) ?_
              refine ih6 g (t + 1) ?_ ?_ ?_ ?_
              · first | omega | assumption | (intros; omega)
              · first | omega | assumption | (intros; omega)
              · rw [show (t + 1).toNat = t.toNat + 1 by omega, zdeg, show ((t.toNat : Nat) : Int) = t by omega]
                first
                | (rw [if_pos ⟨by omega, by assumption⟩]; unfold zvv; omega)
                | (rw [if_neg (fun q => by have := q.1; omega)]; exact h2)
                | (rw [if_neg (fun q => q.2 (by assumption))]; exact h2)
              · omega
            · skip
              have hz : zco mem q t ≠ 0 := fun z => c66_9 (by rw [if_pos (show zcf (mem 70 q) (mem 71 q) (mem 67 1) (ztd mem q) (t / 5) (t % 5) = 0 from z)])
              refine wp_iload dd_X11_degreeOf_69 rfl ?_
              refine wp_goto (tgt := 75) dd_X11_degreeOf_71 (by decide) ?_
              refine wp_istore_n (ls2 := [some (zR 67), some (zI q), some (zI b), some (zI (t / 5)), some (zI t), some (zI (t / 5)), some (zI (t % 5)), some (zI (t / 5))]) dd_X11_degreeOf_75 rfl (by decide) rfl ?_
              refine wp_iincC (ls2 := [some (zR 67), some (zI q), some (zI b), some (zI (t / 5)), some (zI (t + 1)), some (zI (t / 5)), some (zI (t % 5)), some (zI (t / 5))]) dd_X11_degreeOf_76 rfl rfl (by decide) (by omega) rfl ?_
              refine wp_goto (tgt := 6) dd_X11_degreeOf_79 (by decide) ?_
              refine wp_ls (zw_sub_of (a := [some (zR 67), some (zI q), some (zI b), some (zI (t / 5)), some (zI (t + 1)), none, none, none]) (And.intro rfl (And.intro rfl (And.intro rfl (And.intro rfl (And.intro rfl (trivial))))))) ?_
              refine ih6 (t / 5) (t + 1) ?_ ?_ ?_ ?_
              · first | omega | assumption | (intros; omega)
              · first | omega | assumption | (intros; omega)
              · rw [show (t + 1).toNat = t.toNat + 1 by omega, zdeg, show ((t.toNat : Nat) : Int) = t by omega]
                first
                | (rw [if_pos ⟨by omega, by assumption⟩]; unfold zvv; omega)
                | (rw [if_neg (fun q => by have := q.1; omega)]; exact h2)
                | (rw [if_neg (fun q => q.2 (by assumption))]; exact h2)
              · omega
  refine lp6 ((25 - 0 : Int)).toNat.succ (-9) 0 ?_ ?_ ?_ ?_
  · first | omega | assumption | (intros; omega)
  · first | omega | assumption | (intros; omega)
  · rfl
  · omega

set_option maxRecDepth 100000 in
set_option maxHeartbeats 4000000 in
theorem sp_X11_isNought {l : Launch} {L : Nat} {mem : zMem} {Q : zQ}  (q : Int) (hp : zPr (mem 67 1)) (hT : zT mem q) (k : Q (some (zI (if zdeg (zco mem q) 0 25 < 0 then 1 else 0))) (zS L) mem) : zw_Ok l mm_X11_isNought [zR 67, zI q] (zS L) mem Q := by
  refine zw_okA (fun hA => ?_)
  have rg_q : -2147483648 ≤ q ∧ q < 2147483648 := hA.2.1
  refine zw_enter (by decide) (Nat.le_of_ble_eq_true rfl) rfl ?_
  show zw_Wp l mm_X11_isNought (zS L) 0 [some (zR 67), some (zI q)] [] mem 0 0 Q
  refine wp_aload_n dd_X11_isNought_0 rfl ?_
  refine wp_iload_n dd_X11_isNought_1 rfl ?_
  refine wp_iconst dd_X11_isNought_2 (zr_lit rfl) ?_
  refine wp_callV (M' := mm_X11_degreeOf) (As := [zI q, zI 0]) (rest := []) dd_X11_isNought_3 lk_X11_114 mV_X11_degreeOf kk_67 (zlt rfl) ⟨_, _, rfl⟩ rfl (by decide) (by decide) (Nat.le_of_ble_eq_true rfl) rfl (sp_X11_degreeOf  q 0 (by first | assumption | omega) (by first | assumption | omega) (by first | assumption | omega) ?_)
  show zw_Wp l mm_X11_isNought (zS L) 6 [some (zR 67), some (zI q)] [zI (zdeg (zco mem q) 0 25)] mem 0 0 Q
  refine wp_if_ge (tgt := 13) dd_X11_isNought_6 (by decide) (fun c6_1 => ?_) (fun c6_1 => ?_)
  · skip
    refine wp_iconst dd_X11_isNought_13 (zr_lit rfl) ?_
    refine wp_zreturn (st := []) dd_X11_isNought_14 rfl (by omega) ?_
    refine zq_I ?_ ?_ k
    · first | rfl | omega | (rw [if_pos (by omega)]) | (rw [if_neg (by omega)])
    · rfl
  · skip
    refine wp_iconst dd_X11_isNought_9 (zr_lit rfl) ?_
    refine wp_goto (tgt := 14) dd_X11_isNought_10 (by decide) ?_
    refine wp_zreturn (st := []) dd_X11_isNought_14 rfl (by omega) ?_
    refine zq_I ?_ ?_ k
    · first | rfl | omega | (rw [if_pos (by omega)]) | (rw [if_neg (by omega)])
    · rfl

set_option maxRecDepth 100000 in
set_option maxHeartbeats 4000000 in
theorem sp_X11_termsOf {l : Launch} {L : Nat} {mem : zMem} {Q : zQ}  (q : Int) (hp : zPr (mem 67 1)) (hT : zT mem q) (k : Q (some (zI (zcnt (zco mem q) 25))) (zS L) mem) : zw_Ok l mm_X11_termsOf [zR 67, zI q] (zS L) mem Q := by
  refine zw_okA (fun hA => ?_)
  have rg_q : -2147483648 ≤ q ∧ q < 2147483648 := hA.2.1
  refine zw_enter (by decide) (Nat.le_of_ble_eq_true rfl) rfl ?_
  show zw_Wp l mm_X11_termsOf (zS L) 0 [some (zR 67), some (zI q), none, none] [] mem 0 0 Q
  have hpr := hp.rg
  refine wp_iconst dd_X11_termsOf_0 (zr_lit rfl) ?_
  refine wp_istore_n (ls2 := [some (zR 67), some (zI q), some (zI 0), none]) dd_X11_termsOf_1 rfl (by decide) rfl ?_
  refine wp_iconst dd_X11_termsOf_2 (zr_lit rfl) ?_
  refine wp_istore_n (ls2 := [some (zR 67), some (zI q), some (zI 0), some (zI 0)]) dd_X11_termsOf_3 rfl (by decide) rfl ?_
  have lp4 : ∀ (nf : Nat) (a : Int) (t : Int), (0 ≤ t) → (t ≤ 25) → (a = zcnt (zco mem q) t.toNat) → (25 - t) < (nf : Int) → zw_Wp l mm_X11_termsOf (zS L) 4 [some (zR 67), some (zI q), some (zI a), some (zI t)] [] mem 0 0 Q := by
    intro nf
    induction nf with
    | zero =>
      intro a t h0 h1 h2 hmu
      exfalso; omega
    | succ nf ih4 =>
      intro a t h0 h1 h2 hmu
      have ha := zcnt_rg (f := zco mem q) t.toNat
      refine wp_iload_n dd_X11_termsOf_4 rfl ?_
      refine wp_bipush dd_X11_termsOf_5 (by decide) ?_
      refine wp_icmp_ge (tgt := 38) dd_X11_termsOf_7 (by decide) (fun c7_1 => ?_) (fun c7_1 => ?_)
      · skip
        refine wp_iload_n dd_X11_termsOf_38 rfl ?_
        refine wp_ireturn (st := []) dd_X11_termsOf_39 rfl ?_
        refine zq_I ?_ ?_ k
        · rw [h2, show t.toNat = 25 by omega]
        · rfl
      · skip
        refine wp_iload_n dd_X11_termsOf_10 rfl ?_
        refine wp_aload_n dd_X11_termsOf_11 rfl ?_
        refine wp_iload_n dd_X11_termsOf_12 rfl ?_
        refine wp_iload_n dd_X11_termsOf_13 rfl ?_
        refine wp_iconst dd_X11_termsOf_14 (zr_lit rfl) ?_
        refine wp_idivP dd_X11_termsOf_15 (by omega) (by omega) ?_
        refine wp_iload_n dd_X11_termsOf_16 rfl ?_
        refine wp_iconst dd_X11_termsOf_17 (zr_lit rfl) ?_
        refine wp_iremP dd_X11_termsOf_18 (by omega) (by omega) ?_
        refine wp_callV (M' := mm_X11_isTerm) (As := [zI q, zI (t / 5), zI (t % 5)]) (rest := [zI a]) dd_X11_termsOf_19 lk_X11_111 mV_X11_isTerm kk_67 (zlt rfl) ⟨_, _, rfl⟩ rfl (by decide) (by decide) (Nat.le_of_ble_eq_true rfl) rfl (sp_X11_isTerm  q (t / 5) (t % 5) (by first | assumption | omega) (by first | assumption | omega) (by first | assumption | omega) (by first | assumption | omega) ?_)
        show zw_Wp l mm_X11_termsOf (zS L) 22 [some (zR 67), some (zI q), some (zI a), some (zI t)] [zI (if zcf (mem 70 q) (mem 71 q) (mem 67 1) (ztd mem q) (t / 5) (t % 5) = 0 then 0 else 1), zI a] mem 0 0 Q
        refine wp_if_eq (tgt := 29) dd_X11_termsOf_22 (by decide) (fun c22_2 => ?_) (fun c22_2 => ?_)
        · skip
          have hz : zco mem q t = 0 := by
            by_cases z : zcf (mem 70 q) (mem 71 q) (mem 67 1) (ztd mem q) (t / 5) (t % 5) = 0
            · exact z
            · rw [if_neg z] at c22_2; omega
          refine wp_iconst dd_X11_termsOf_29 (zr_lit rfl) ?_
          refine wp_iaddC dd_X11_termsOf_30 (by omega) ?_
          refine wp_istore_n (ls2 := [some (zR 67), some (zI q), some (zI (a + 0)), some (zI t)]) dd_X11_termsOf_31 rfl (by decide) rfl ?_
          refine wp_iincC (ls2 := [some (zR 67), some (zI q), some (zI (a + 0)), some (zI (t + 1))]) dd_X11_termsOf_32 rfl rfl (by decide) (by omega) rfl ?_
          refine wp_goto (tgt := 4) dd_X11_termsOf_35 (by decide) ?_
          refine ih4 (a + 0) (t + 1) ?_ ?_ ?_ ?_
          · first | omega | assumption | (intros; omega)
          · first | omega | assumption | (intros; omega)
          · rw [show (t + 1).toNat = t.toNat + 1 by omega, zcnt, show ((t.toNat : Nat) : Int) = t by omega, ← h2]
            first | (rw [if_pos hz]) | (rw [if_neg hz])
          · omega
        · skip
          have hz : zco mem q t ≠ 0 := fun z => c22_2 (by rw [if_pos (show zcf (mem 70 q) (mem 71 q) (mem 67 1) (ztd mem q) (t / 5) (t % 5) = 0 from z)])
          refine wp_iconst dd_X11_termsOf_25 (zr_lit rfl) ?_
          refine wp_goto (tgt := 30) dd_X11_termsOf_26 (by decide) ?_
          refine wp_iaddC dd_X11_termsOf_30 (by omega) ?_
          refine wp_istore_n (ls2 := [some (zR 67), some (zI q), some (zI (a + 1)), some (zI t)]) dd_X11_termsOf_31 rfl (by decide) rfl ?_
          refine wp_iincC (ls2 := [some (zR 67), some (zI q), some (zI (a + 1)), some (zI (t + 1))]) dd_X11_termsOf_32 rfl rfl (by decide) (by omega) rfl ?_
          refine wp_goto (tgt := 4) dd_X11_termsOf_35 (by decide) ?_
          refine ih4 (a + 1) (t + 1) ?_ ?_ ?_ ?_
          · first | omega | assumption | (intros; omega)
          · first | omega | assumption | (intros; omega)
          · rw [show (t + 1).toNat = t.toNat + 1 by omega, zcnt, show ((t.toNat : Nat) : Int) = t by omega, ← h2]
            first | (rw [if_pos hz]) | (rw [if_neg hz])
          · omega
  refine lp4 ((25 - 0 : Int)).toNat.succ 0 0 ?_ ?_ ?_ ?_
  · first | omega | assumption | (intros; omega)
  · first | omega | assumption | (intros; omega)
  · rfl
  · omega

set_option maxRecDepth 100000 in
set_option maxHeartbeats 4000000 in
theorem sp_X11_valueAt {l : Launch} {L : Nat} {mem : zMem} {Q : zQ}  (q : Int) (x : Int) (y : Int) (hp : zPr (mem 67 1)) (hT : zT mem q) (k : Q (some (zI (zvs (zco mem q) x y (mem 67 1) 25))) (zS L) mem) : zw_Ok l mm_X11_valueAt [zR 67, zI q, zI x, zI y] (zS L) mem Q := by
  refine zw_okA (fun hA => ?_)
  have rg_q : -2147483648 ≤ q ∧ q < 2147483648 := hA.2.1
  have rg_x : -2147483648 ≤ x ∧ x < 2147483648 := hA.2.2.1
  have rg_y : -2147483648 ≤ y ∧ y < 2147483648 := hA.2.2.2.1
  refine zw_enter (by decide) (Nat.le_of_ble_eq_true rfl) rfl ?_
  show zw_Wp l mm_X11_valueAt (zS L) 0 [some (zR 67), some (zI q), some (zI x), some (zI y), none, none] [] mem 0 0 Q
  have hpr := hp.rg
  refine wp_iconst dd_X11_valueAt_0 (zr_lit rfl) ?_
  refine wp_istore (ls2 := [some (zR 67), some (zI q), some (zI x), some (zI y), some (zI 0), none]) dd_X11_valueAt_1 rfl (by decide) rfl ?_
  refine wp_iconst dd_X11_valueAt_3 (zr_lit rfl) ?_
  refine wp_istore (ls2 := [some (zR 67), some (zI q), some (zI x), some (zI y), some (zI 0), some (zI 0)]) dd_X11_valueAt_4 rfl (by decide) rfl ?_
  have lp6 : ∀ (nf : Nat) (w : Int) (t : Int), (0 ≤ t) → (t ≤ 25) → (w = zvs (zco mem q) x y (mem 67 1) t.toNat) → (25 - t) < (nf : Int) → zw_Wp l mm_X11_valueAt (zS L) 6 [some (zR 67), some (zI q), some (zI x), some (zI y), some (zI w), some (zI t)] [] mem 0 0 Q := by
    intro nf
    induction nf with
    | zero =>
      intro w t h0 h1 h2 hmu
      exfalso; omega
    | succ nf ih6 =>
      intro w t h0 h1 h2 hmu
      have hw : 0 ≤ w ∧ w < mem 67 1 := by rw [h2]; exact zvs_rg (by omega) _
      have hx1 := zm_rg (a := x ^ (t / 5).toNat) (p := mem 67 1) (by omega)
      have hy1 := zm_rg (a := y ^ (t % 5).toNat) (p := mem 67 1) (by omega)
      refine wp_iload dd_X11_valueAt_6 rfl ?_
      refine wp_bipush dd_X11_valueAt_8 (by decide) ?_
      refine wp_icmp_ge (tgt := 67) dd_X11_valueAt_10 (by decide) (fun c10_1 => ?_) (fun c10_1 => ?_)
      · skip
        refine wp_iload dd_X11_valueAt_67 rfl ?_
        refine wp_ireturn (st := []) dd_X11_valueAt_69 rfl ?_
        refine zq_I ?_ ?_ k
        · rw [h2, show t.toNat = 25 by omega]
        · rfl
      · skip
        have hc1 : 0 ≤ zcf (mem 70 q) (mem 71 q) (mem 67 1) (ztd mem q) (t / 5) (t % 5) ∧ zcf (mem 70 q) (mem 71 q) (mem 67 1) (ztd mem q) (t / 5) (t % 5) < mem 67 1 := zco_rg hp hT t (by omega) (by omega)
        have hm1 := zmul_rg (a := zcf (mem 70 q) (mem 71 q) (mem 67 1) (ztd mem q) (t / 5) (t % 5)) (b := x ^ (t / 5).toNat % mem 67 1) (A := 31) (B := 31) (by omega) (by omega) (by omega) (by omega)
        have hm2 := zm_rg (a := zcf (mem 70 q) (mem 71 q) (mem 67 1) (ztd mem q) (t / 5) (t % 5) * (x ^ (t / 5).toNat % mem 67 1)) (p := mem 67 1) (by omega)
        have hm3 := zmul_rg (a := zcf (mem 70 q) (mem 71 q) (mem 67 1) (ztd mem q) (t / 5) (t % 5) * (x ^ (t / 5).toNat % mem 67 1) % mem 67 1) (b := y ^ (t % 5).toNat % mem 67 1) (A := 31) (B := 31) (by omega) (by omega) (by omega) (by omega)
        refine wp_iload dd_X11_valueAt_13 rfl ?_
        refine wp_aload_n dd_X11_valueAt_15 rfl ?_
        refine wp_iload_n dd_X11_valueAt_16 rfl ?_
        refine wp_iload dd_X11_valueAt_17 rfl ?_
        refine wp_iconst dd_X11_valueAt_19 (zr_lit rfl) ?_
        refine wp_idivP dd_X11_valueAt_20 (by omega) (by omega) ?_
        refine wp_iload dd_X11_valueAt_21 rfl ?_
        refine wp_iconst dd_X11_valueAt_23 (zr_lit rfl) ?_
        refine wp_iremP dd_X11_valueAt_24 (by omega) (by omega) ?_
        refine wp_callV (M' := mm_X11_coefficientOf) (As := [zI q, zI (t / 5), zI (t % 5)]) (rest := [zI w]) dd_X11_valueAt_25 lk_X11_108 mV_X11_coefficientOf kk_67 (zlt rfl) ⟨_, _, rfl⟩ rfl (by decide) (by decide) (Nat.le_of_ble_eq_true rfl) rfl (sp_X11_coefficientOf  q (t / 5) (t % 5) (by first | assumption | omega) (by first | assumption | omega) (by first | assumption | omega) (by first | assumption | omega) ?_)
        show zw_Wp l mm_X11_valueAt (zS L) 28 [some (zR 67), some (zI q), some (zI x), some (zI y), some (zI w), some (zI t)] [zI (zcf (mem 70 q) (mem 71 q) (mem 67 1) (ztd mem q) (t / 5) (t % 5)), zI w] mem 0 0 Q
        refine wp_aload_n dd_X11_valueAt_28 rfl ?_
        refine wp_iload_n dd_X11_valueAt_29 rfl ?_
        refine wp_iload dd_X11_valueAt_30 rfl ?_
        refine wp_iconst dd_X11_valueAt_32 (zr_lit rfl) ?_
        refine wp_idivP dd_X11_valueAt_33 (by omega) (by omega) ?_
        refine wp_callV (M' := mm_X11_power) (As := [zI x, zI (t / 5)]) (rest := [zI (zcf (mem 70 q) (mem 71 q) (mem 67 1) (ztd mem q) (t / 5) (t % 5)), zI w]) dd_X11_valueAt_34 lk_X11_17 mV_X11_power kk_67 (zlt rfl) ⟨_, _, rfl⟩ rfl (by decide) (by decide) (Nat.le_of_ble_eq_true rfl) rfl (sp_X11_power  x (t / 5) (by first | assumption | omega) (by first | assumption | omega) ?_)
        show zw_Wp l mm_X11_valueAt (zS L) 37 [some (zR 67), some (zI q), some (zI x), some (zI y), some (zI w), some (zI t)] [zI (x ^ (t / 5).toNat % mem 67 1), zI (zcf (mem 70 q) (mem 71 q) (mem 67 1) (ztd mem q) (t / 5) (t % 5)), zI w] mem 0 0 Q
        refine wp_imulC dd_X11_valueAt_37 (by omega) ?_
        refine wp_aload_n dd_X11_valueAt_38 rfl ?_
        refine wp_getZ 1 rfl dd_X11_valueAt_39 gf_X11_9 rfl kk_67 (by decide) (zlt rfl) ?_
        refine wp_iremP dd_X11_valueAt_42 (by omega) (by omega) ?_
        refine wp_aload_n dd_X11_valueAt_43 rfl ?_
        refine wp_iload_n dd_X11_valueAt_44 rfl ?_
        refine wp_iload dd_X11_valueAt_45 rfl ?_
        refine wp_iconst dd_X11_valueAt_47 (zr_lit rfl) ?_
        refine wp_iremP dd_X11_valueAt_48 (by omega) (by omega) ?_
        refine wp_callV (M' := mm_X11_power) (As := [zI y, zI (t % 5)]) (rest := [zI (((zcf (mem 70 q) (mem 71 q) (mem 67 1) (ztd mem q) (t / 5) (t % 5)) * (x ^ (t / 5).toNat % mem 67 1)) % (mem 67 1)), zI w]) dd_X11_valueAt_49 lk_X11_17 mV_X11_power kk_67 (zlt rfl) ⟨_, _, rfl⟩ rfl (by decide) (by decide) (Nat.le_of_ble_eq_true rfl) rfl (sp_X11_power  y (t % 5) (by first | assumption | omega) (by first | assumption | omega) ?_)
        show zw_Wp l mm_X11_valueAt (zS L) 52 [some (zR 67), some (zI q), some (zI x), some (zI y), some (zI w), some (zI t)] [zI (y ^ (t % 5).toNat % mem 67 1), zI (((zcf (mem 70 q) (mem 71 q) (mem 67 1) (ztd mem q) (t / 5) (t % 5)) * (x ^ (t / 5).toNat % mem 67 1)) % (mem 67 1)), zI w] mem 0 0 Q
        refine wp_imulC dd_X11_valueAt_52 (by omega) ?_
        refine wp_iaddC dd_X11_valueAt_53 (by omega) ?_
        refine wp_aload_n dd_X11_valueAt_54 rfl ?_
        refine wp_getZ 1 rfl dd_X11_valueAt_55 gf_X11_9 rfl kk_67 (by decide) (zlt rfl) ?_
        refine wp_iremP dd_X11_valueAt_58 (by omega) (by omega) ?_
        refine wp_istore (ls2 := [some (zR 67), some (zI q), some (zI x), some (zI y), some (zI ((w + ((((zcf (mem 70 q) (mem 71 q) (mem 67 1) (ztd mem q) (t / 5) (t % 5)) * (x ^ (t / 5).toNat % mem 67 1)) % (mem 67 1)) * (y ^ (t % 5).toNat % mem 67 1))) % (mem 67 1))), some (zI t)]) dd_X11_valueAt_59 rfl (by decide) rfl ?_
        refine wp_iincC (ls2 := [some (zR 67), some (zI q), some (zI x), some (zI y), some (zI ((w + ((((zcf (mem 70 q) (mem 71 q) (mem 67 1) (ztd mem q) (t / 5) (t % 5)) * (x ^ (t / 5).toNat % mem 67 1)) % (mem 67 1)) * (y ^ (t % 5).toNat % mem 67 1))) % (mem 67 1))), some (zI (t + 1))]) dd_X11_valueAt_61 rfl rfl (by decide) (by omega) rfl ?_
        refine wp_goto (tgt := 6) dd_X11_valueAt_64 (by decide) ?_
        refine ih6 ((w + ((((zcf (mem 70 q) (mem 71 q) (mem 67 1) (ztd mem q) (t / 5) (t % 5)) * (x ^ (t / 5).toNat % mem 67 1)) % (mem 67 1)) * (y ^ (t % 5).toNat % mem 67 1))) % (mem 67 1)) (t + 1) ?_ ?_ ?_ ?_
        · first | omega | assumption | (intros; omega)
        · first | omega | assumption | (intros; omega)
        · rw [show (t + 1).toNat = t.toNat + 1 by omega, zvs, show ((t.toNat : Nat) : Int) = t by omega, ← h2]; rfl
        · omega
  refine lp6 ((25 - 0 : Int)).toNat.succ 0 0 ?_ ?_ ?_ ?_
  · first | omega | assumption | (intros; omega)
  · first | omega | assumption | (intros; omega)
  · rfl
  · omega

set_option maxRecDepth 100000 in
set_option maxHeartbeats 4000000 in
theorem sp_X11_notPowers {l : Launch} {L : Nat} {mem : zMem} {Q : zQ}  (q : Int) (i : Int) (j : Int) (hn : 0 ≤ mem 67 5 ∧ mem 67 5 ≤ 6) (k : Q (some (zI (if ¬ (0 ≤ q ∧ q < mem 67 5) then -1 else if i < 0 ∨ j < 0 then -4 else if 5 ≤ i ∨ 5 ≤ j then -6 else 0))) (zS L) mem) : zw_Ok l mm_X11_notPowers [zR 67, zI q, zI i, zI j] (zS L) mem Q := by
  refine zw_okA (fun hA => ?_)
  have rg_q : -2147483648 ≤ q ∧ q < 2147483648 := hA.2.1
  have rg_i : -2147483648 ≤ i ∧ i < 2147483648 := hA.2.2.1
  have rg_j : -2147483648 ≤ j ∧ j < 2147483648 := hA.2.2.2.1
  refine zw_enter (by decide) (Nat.le_of_ble_eq_true rfl) rfl ?_
  show zw_Wp l mm_X11_notPowers (zS L) 0 [some (zR 67), some (zI q), some (zI i), some (zI j)] [] mem 0 0 Q
  refine wp_aload_n dd_X11_notPowers_0 rfl ?_
  refine wp_iload_n dd_X11_notPowers_1 rfl ?_
  refine wp_callV (M' := mm_X11_isPoly) (As := [zI q]) (rest := []) dd_X11_notPowers_2 lk_X11_154 mV_X11_isPoly kk_67 (zlt rfl) ⟨_, _, rfl⟩ rfl (by decide) (by decide) (Nat.le_of_ble_eq_true rfl) rfl (sp_X11_isPoly  q (by first | assumption | omega) ?_)
  show zw_Wp l mm_X11_notPowers (zS L) 5 [some (zR 67), some (zI q), some (zI i), some (zI j)] [zI (if 0 ≤ q ∧ q < mem 67 5 then 1 else 0)] mem 0 0 Q
  refine wp_if_ne (tgt := 12) dd_X11_notPowers_5 (by decide) (fun c5_1 => ?_) (fun c5_1 => ?_)
  · skip
    refine wp_iload_n dd_X11_notPowers_12 rfl ?_
    refine wp_if_lt (tgt := 20) dd_X11_notPowers_13 (by decide) (fun c13_2 => ?_) (fun c13_2 => ?_)
    · skip
      refine wp_bipush dd_X11_notPowers_20 (by decide) ?_
      refine wp_goto (tgt := 41) dd_X11_notPowers_22 (by decide) ?_
      refine wp_ireturn (st := []) dd_X11_notPowers_41 rfl ?_
      refine zq_I ?_ ?_ k
      · repeat first | rw [if_pos (by omega)] | rw [if_neg (by omega)]
      · rfl
    · skip
      refine wp_iload_n dd_X11_notPowers_16 rfl ?_
      refine wp_if_ge (tgt := 25) dd_X11_notPowers_17 (by decide) (fun c17_3 => ?_) (fun c17_3 => ?_)
      · skip
        refine wp_iload_n dd_X11_notPowers_25 rfl ?_
        refine wp_iconst dd_X11_notPowers_26 (zr_lit rfl) ?_
        refine wp_icmp_ge (tgt := 35) dd_X11_notPowers_27 (by decide) (fun c27_4 => ?_) (fun c27_4 => ?_)
        · skip
          refine wp_bipush dd_X11_notPowers_35 (by decide) ?_
          refine wp_goto (tgt := 41) dd_X11_notPowers_37 (by decide) ?_
          refine wp_ireturn (st := []) dd_X11_notPowers_41 rfl ?_
          refine zq_I ?_ ?_ k
          · repeat first | rw [if_pos (by omega)] | rw [if_neg (by omega)]
          · rfl
        · skip
          refine wp_iload_n dd_X11_notPowers_30 rfl ?_
          refine wp_iconst dd_X11_notPowers_31 (zr_lit rfl) ?_
          refine wp_icmp_lt (tgt := 40) dd_X11_notPowers_32 (by decide) (fun c32_5 => ?_) (fun c32_5 => ?_)
          · skip
            refine wp_iconst dd_X11_notPowers_40 (zr_lit rfl) ?_
            refine wp_ireturn (st := []) dd_X11_notPowers_41 rfl ?_
            refine zq_I ?_ ?_ k
            · repeat first | rw [if_pos (by omega)] | rw [if_neg (by omega)]
            · rfl
          · skip
            refine wp_bipush dd_X11_notPowers_35 (by decide) ?_
            refine wp_goto (tgt := 41) dd_X11_notPowers_37 (by decide) ?_
            refine wp_ireturn (st := []) dd_X11_notPowers_41 rfl ?_
            refine zq_I ?_ ?_ k
            · repeat first | rw [if_pos (by omega)] | rw [if_neg (by omega)]
            · rfl
      · skip
        refine wp_bipush dd_X11_notPowers_20 (by decide) ?_
        refine wp_goto (tgt := 41) dd_X11_notPowers_22 (by decide) ?_
        refine wp_ireturn (st := []) dd_X11_notPowers_41 rfl ?_
        refine zq_I ?_ ?_ k
        · repeat first | rw [if_pos (by omega)] | rw [if_neg (by omega)]
        · rfl
  · skip
    refine wp_iconst dd_X11_notPowers_8 (zr_lit rfl) ?_
    refine wp_goto (tgt := 41) dd_X11_notPowers_9 (by decide) ?_
    refine wp_ireturn (st := []) dd_X11_notPowers_41 rfl ?_
    refine zq_I ?_ ?_ k
    · repeat first | rw [if_pos (by omega)] | rw [if_neg (by omega)]
    · rfl

set_option maxRecDepth 100000 in
set_option maxHeartbeats 4000000 in
theorem sp_X11_notTwo {l : Launch} {L : Nat} {mem : zMem} {Q : zQ}  (a : Int) (b : Int) (le : Int) (hn : 0 ≤ mem 67 5 ∧ mem 67 5 ≤ 6) (k : Q (some (zI (if (0 ≤ a ∧ a < mem 67 5) ∧ (0 ≤ b ∧ b < mem 67 5) ∧ 0 ≤ le ∧ le ≤ 1 then 0 else -1))) (zS L) mem) : zw_Ok l mm_X11_notTwo [zR 67, zI a, zI b, zI le] (zS L) mem Q := by
  refine zw_okA (fun hA => ?_)
  have rg_a : -2147483648 ≤ a ∧ a < 2147483648 := hA.2.1
  have rg_b : -2147483648 ≤ b ∧ b < 2147483648 := hA.2.2.1
  have rg_le : -2147483648 ≤ le ∧ le < 2147483648 := hA.2.2.2.1
  refine zw_enter (by decide) (Nat.le_of_ble_eq_true rfl) rfl ?_
  show zw_Wp l mm_X11_notTwo (zS L) 0 [some (zR 67), some (zI a), some (zI b), some (zI le)] [] mem 0 0 Q
  refine wp_aload_n dd_X11_notTwo_0 rfl ?_
  refine wp_iload_n dd_X11_notTwo_1 rfl ?_
  refine wp_callV (M' := mm_X11_isPoly) (As := [zI a]) (rest := []) dd_X11_notTwo_2 lk_X11_154 mV_X11_isPoly kk_67 (zlt rfl) ⟨_, _, rfl⟩ rfl (by decide) (by decide) (Nat.le_of_ble_eq_true rfl) rfl (sp_X11_isPoly  a (by first | assumption | omega) ?_)
  show zw_Wp l mm_X11_notTwo (zS L) 5 [some (zR 67), some (zI a), some (zI b), some (zI le)] [zI (if 0 ≤ a ∧ a < mem 67 5 then 1 else 0)] mem 0 0 Q
  refine wp_if_eq (tgt := 29) dd_X11_notTwo_5 (by decide) (fun c5_1 => ?_) (fun c5_1 => ?_)
  · skip
    refine wp_iconst dd_X11_notTwo_29 (zr_lit rfl) ?_
    refine wp_ireturn (st := []) dd_X11_notTwo_30 rfl ?_
    refine zq_I ?_ ?_ k
    · first | rw [if_pos (by omega)] | rw [if_neg (by omega)]
    · rfl
  · skip
    refine wp_aload_n dd_X11_notTwo_8 rfl ?_
    refine wp_iload_n dd_X11_notTwo_9 rfl ?_
    refine wp_callV (M' := mm_X11_isPoly) (As := [zI b]) (rest := []) dd_X11_notTwo_10 lk_X11_154 mV_X11_isPoly kk_67 (zlt rfl) ⟨_, _, rfl⟩ rfl (by decide) (by decide) (Nat.le_of_ble_eq_true rfl) rfl (sp_X11_isPoly  b (by first | assumption | omega) ?_)
    show zw_Wp l mm_X11_notTwo (zS L) 13 [some (zR 67), some (zI a), some (zI b), some (zI le)] [zI (if 0 ≤ b ∧ b < mem 67 5 then 1 else 0)] mem 0 0 Q
    refine wp_if_eq (tgt := 29) dd_X11_notTwo_13 (by decide) (fun c13_2 => ?_) (fun c13_2 => ?_)
    · skip
      refine wp_iconst dd_X11_notTwo_29 (zr_lit rfl) ?_
      refine wp_ireturn (st := []) dd_X11_notTwo_30 rfl ?_
      refine zq_I ?_ ?_ k
      · first | rw [if_pos (by omega)] | rw [if_neg (by omega)]
      · rfl
    · skip
      refine wp_iload_n dd_X11_notTwo_16 rfl ?_
      refine wp_iconst dd_X11_notTwo_17 (zr_lit rfl) ?_
      refine wp_iconst dd_X11_notTwo_18 (zr_lit rfl) ?_
      refine wp_callS (M' := mm_X11_isIn) (As := [zI le, zI 0, zI 1]) (rest := []) dd_X11_notTwo_19 lk_X11_21 mS_X11_isIn rfl (by decide) (by decide) (Nat.le_of_ble_eq_true rfl) rfl (sp_X11_isIn  le 0 1  ?_)
      show zw_Wp l mm_X11_notTwo (zS L) 22 [some (zR 67), some (zI a), some (zI b), some (zI le)] [zI (if 0 ≤ le ∧ le ≤ 1 then 1 else 0)] mem 0 0 Q
      refine wp_if_eq (tgt := 29) dd_X11_notTwo_22 (by decide) (fun c22_3 => ?_) (fun c22_3 => ?_)
      · skip
        refine wp_iconst dd_X11_notTwo_29 (zr_lit rfl) ?_
        refine wp_ireturn (st := []) dd_X11_notTwo_30 rfl ?_
        refine zq_I ?_ ?_ k
        · first | rw [if_pos (by omega)] | rw [if_neg (by omega)]
        · rfl
      · skip
        refine wp_iconst dd_X11_notTwo_25 (zr_lit rfl) ?_
        refine wp_goto (tgt := 30) dd_X11_notTwo_26 (by decide) ?_
        refine wp_ireturn (st := []) dd_X11_notTwo_30 rfl ?_
        refine zq_I ?_ ?_ k
        · first | rw [if_pos (by omega)] | rw [if_neg (by omega)]
        · rfl

set_option maxRecDepth 100000 in
set_option maxHeartbeats 4000000 in
theorem sp_X11_notTable {l : Launch} {L : Nat} {mem : zMem} {Q : zQ}  (a : Int) (b : Int) (le : Int) (tb : Int) (hp : zPr (mem 67 1)) (hn : 0 ≤ mem 67 5 ∧ mem 67 5 ≤ 6) (hTa : ∀ q : Int, 0 ≤ q → q < mem 67 5 → zT mem q) (k : Q (some (zI (if ¬ ((0 ≤ a ∧ a < mem 67 5) ∧ (0 ≤ b ∧ b < mem 67 5) ∧ 0 ≤ le ∧ le ≤ 1) then -1 else if ¬ (0 ≤ tb ∧ tb ≤ 1) then -2 else if zdeg (zco mem a) 0 25 < 0 ∨ zdeg (zco mem b) 0 25 < 0 then -3 else 0))) (zS L) mem) : zw_Ok l mm_X11_notTable [zR 67, zI a, zI b, zI le, zI tb] (zS L) mem Q := by
  refine zw_okA (fun hA => ?_)
  have rg_a : -2147483648 ≤ a ∧ a < 2147483648 := hA.2.1
  have rg_b : -2147483648 ≤ b ∧ b < 2147483648 := hA.2.2.1
  have rg_le : -2147483648 ≤ le ∧ le < 2147483648 := hA.2.2.2.1
  have rg_tb : -2147483648 ≤ tb ∧ tb < 2147483648 := hA.2.2.2.2.1
  refine zw_enter (by decide) (Nat.le_of_ble_eq_true rfl) rfl ?_
  show zw_Wp l mm_X11_notTable (zS L) 0 [some (zR 67), some (zI a), some (zI b), some (zI le), some (zI tb)] [] mem 0 0 Q
  refine wp_aload_n dd_X11_notTable_0 rfl ?_
  refine wp_iload_n dd_X11_notTable_1 rfl ?_
  refine wp_iload_n dd_X11_notTable_2 rfl ?_
  refine wp_iload_n dd_X11_notTable_3 rfl ?_
  refine wp_callV (M' := mm_X11_notTwo) (As := [zI a, zI b, zI le]) (rest := []) dd_X11_notTable_4 lk_X11_170 mV_X11_notTwo kk_67 (zlt rfl) ⟨_, _, rfl⟩ rfl (by decide) (by decide) (Nat.le_of_ble_eq_true rfl) rfl (sp_X11_notTwo  a b le (by first | assumption | omega) ?_)
  show zw_Wp l mm_X11_notTable (zS L) 7 [some (zR 67), some (zI a), some (zI b), some (zI le), some (zI tb)] [zI (if (0 ≤ a ∧ a < mem 67 5) ∧ (0 ≤ b ∧ b < mem 67 5) ∧ 0 ≤ le ∧ le ≤ 1 then 0 else -1)] mem 0 0 Q
  refine wp_if_eq (tgt := 14) dd_X11_notTable_7 (by decide) (fun c7_1 => ?_) (fun c7_1 => ?_)
  · skip
    refine wp_iload dd_X11_notTable_14 rfl ?_
    refine wp_iconst dd_X11_notTable_16 (zr_lit rfl) ?_
    refine wp_iconst dd_X11_notTable_17 (zr_lit rfl) ?_
    refine wp_callS (M' := mm_X11_isIn) (As := [zI tb, zI 0, zI 1]) (rest := []) dd_X11_notTable_18 lk_X11_21 mS_X11_isIn rfl (by decide) (by decide) (Nat.le_of_ble_eq_true rfl) rfl (sp_X11_isIn  tb 0 1  ?_)
    show zw_Wp l mm_X11_notTable (zS L) 21 [some (zR 67), some (zI a), some (zI b), some (zI le), some (zI tb)] [zI (if 0 ≤ tb ∧ tb ≤ 1 then 1 else 0)] mem 0 0 Q
    refine wp_if_ne (tgt := 29) dd_X11_notTable_21 (by decide) (fun c21_2 => ?_) (fun c21_2 => ?_)
    · skip
      refine wp_aload_n dd_X11_notTable_29 rfl ?_
      refine wp_iload_n dd_X11_notTable_30 rfl ?_
      refine wp_callV (M' := mm_X11_isNought) (As := [zI a]) (rest := []) dd_X11_notTable_31 lk_X11_173 mV_X11_isNought kk_67 (zlt rfl) ⟨_, _, rfl⟩ rfl (by decide) (by decide) (Nat.le_of_ble_eq_true rfl) rfl (sp_X11_isNought  a (by first | assumption | omega) (hTa a (by omega) (by omega)) ?_)
      show zw_Wp l mm_X11_notTable (zS L) 34 [some (zR 67), some (zI a), some (zI b), some (zI le), some (zI tb)] [zI (if zdeg (zco mem a) 0 25 < 0 then 1 else 0)] mem 0 0 Q
      refine wp_if_ne (tgt := 45) dd_X11_notTable_34 (by decide) (fun c34_3 => ?_) (fun c34_3 => ?_)
      · skip
        refine wp_bipush dd_X11_notTable_45 (by decide) ?_
        refine wp_goto (tgt := 51) dd_X11_notTable_47 (by decide) ?_
        refine wp_ireturn (st := []) dd_X11_notTable_51 rfl ?_
        refine zq_I ?_ ?_ k
        · repeat first | rw [if_pos (by omega)] | rw [if_neg (by omega)]
        · rfl
      · skip
        refine wp_aload_n dd_X11_notTable_37 rfl ?_
        refine wp_iload_n dd_X11_notTable_38 rfl ?_
        refine wp_callV (M' := mm_X11_isNought) (As := [zI b]) (rest := []) dd_X11_notTable_39 lk_X11_173 mV_X11_isNought kk_67 (zlt rfl) ⟨_, _, rfl⟩ rfl (by decide) (by decide) (Nat.le_of_ble_eq_true rfl) rfl (sp_X11_isNought  b (by first | assumption | omega) (hTa b (by omega) (by omega)) ?_)
        show zw_Wp l mm_X11_notTable (zS L) 42 [some (zR 67), some (zI a), some (zI b), some (zI le), some (zI tb)] [zI (if zdeg (zco mem b) 0 25 < 0 then 1 else 0)] mem 0 0 Q
        refine wp_if_eq (tgt := 50) dd_X11_notTable_42 (by decide) (fun c42_4 => ?_) (fun c42_4 => ?_)
        · skip
          refine wp_iconst dd_X11_notTable_50 (zr_lit rfl) ?_
          refine wp_ireturn (st := []) dd_X11_notTable_51 rfl ?_
          refine zq_I ?_ ?_ k
          · repeat first | rw [if_pos (by omega)] | rw [if_neg (by omega)]
          · rfl
        · skip
          refine wp_bipush dd_X11_notTable_45 (by decide) ?_
          refine wp_goto (tgt := 51) dd_X11_notTable_47 (by decide) ?_
          refine wp_ireturn (st := []) dd_X11_notTable_51 rfl ?_
          refine zq_I ?_ ?_ k
          · repeat first | rw [if_pos (by omega)] | rw [if_neg (by omega)]
          · rfl
    · skip
      refine wp_bipush dd_X11_notTable_24 (by decide) ?_
      refine wp_goto (tgt := 51) dd_X11_notTable_26 (by decide) ?_
      refine wp_ireturn (st := []) dd_X11_notTable_51 rfl ?_
      refine zq_I ?_ ?_ k
      · repeat first | rw [if_pos (by omega)] | rw [if_neg (by omega)]
      · rfl
  · skip
    refine wp_iconst dd_X11_notTable_10 (zr_lit rfl) ?_
    refine wp_goto (tgt := 51) dd_X11_notTable_11 (by decide) ?_
    refine wp_ireturn (st := []) dd_X11_notTable_51 rfl ?_
    refine zq_I ?_ ?_ k
    · repeat first | rw [if_pos (by omega)] | rw [if_neg (by omega)]
    · rfl

set_option maxRecDepth 100000 in
set_option maxHeartbeats 4000000 in
theorem sp_X11_notBoth {l : Launch} {L : Nat} {mem : zMem} {Q : zQ}  (a : Int) (b : Int) (le : Int) (hp : zPr (mem 67 1)) (hn : 0 ≤ mem 67 5 ∧ mem 67 5 ≤ 6) (hTa : ∀ q : Int, 0 ≤ q → q < mem 67 5 → zT mem q) (k : Q (some (zI (if ¬ ((0 ≤ a ∧ a < mem 67 5) ∧ (0 ≤ b ∧ b < mem 67 5) ∧ 0 ≤ le ∧ le ≤ 1) then -1 else if ¬ (0 ≤ 0 ∧ 0 ≤ 1) then -2 else if zdeg (zco mem a) 0 25 < 0 ∨ zdeg (zco mem b) 0 25 < 0 then -3 else 0))) (zS L) mem) : zw_Ok l mm_X11_notBoth [zR 67, zI a, zI b, zI le] (zS L) mem Q := by
  refine zw_okA (fun hA => ?_)
  have rg_a : -2147483648 ≤ a ∧ a < 2147483648 := hA.2.1
  have rg_b : -2147483648 ≤ b ∧ b < 2147483648 := hA.2.2.1
  have rg_le : -2147483648 ≤ le ∧ le < 2147483648 := hA.2.2.2.1
  refine zw_enter (by decide) (Nat.le_of_ble_eq_true rfl) rfl ?_
  show zw_Wp l mm_X11_notBoth (zS L) 0 [some (zR 67), some (zI a), some (zI b), some (zI le)] [] mem 0 0 Q
  refine wp_aload_n dd_X11_notBoth_0 rfl ?_
  refine wp_iload_n dd_X11_notBoth_1 rfl ?_
  refine wp_iload_n dd_X11_notBoth_2 rfl ?_
  refine wp_iload_n dd_X11_notBoth_3 rfl ?_
  refine wp_iconst dd_X11_notBoth_4 (zr_lit rfl) ?_
  refine wp_callV (M' := mm_X11_notTable) (As := [zI a, zI b, zI le, zI 0]) (rest := []) dd_X11_notBoth_5 lk_X11_176 mV_X11_notTable kk_67 (zlt rfl) ⟨_, _, rfl⟩ rfl (by decide) (by decide) (Nat.le_of_ble_eq_true rfl) rfl (sp_X11_notTable  a b le 0 (by first | assumption | omega) (by first | assumption | omega) (by first | assumption | omega) ?_)
  show zw_Wp l mm_X11_notBoth (zS L) 8 [some (zR 67), some (zI a), some (zI b), some (zI le)] [zI (if ¬ ((0 ≤ a ∧ a < mem 67 5) ∧ (0 ≤ b ∧ b < mem 67 5) ∧ 0 ≤ le ∧ le ≤ 1) then -1 else if ¬ (0 ≤ 0 ∧ 0 ≤ 1) then -2 else if zdeg (zco mem a) 0 25 < 0 ∨ zdeg (zco mem b) 0 25 < 0 then -3 else 0)] mem 0 0 Q
  refine wp_ireturn (st := []) dd_X11_notBoth_8 rfl ?_
  exact k

/-- one more note; of sixteen the oldest goes -/
def zsh1 (f : Int → Int) (n v : Int) : Int → Int := fun k => if n = 16 then (if k = 15 then v else if 0 ≤ k ∧ k < 15 then f (k + 1) else f k) else if k = n then v else f k
def znn (n : Int) : Int := if n = 16 then 16 else n + 1
set_option maxRecDepth 100000 in
set_option maxHeartbeats 4000000 in
theorem sp_X11_notes {l : Launch} {L : Nat} {mem : zMem} {Q : zQ}  (w : Int) (v : Int) (hu : 0 ≤ mem 67 8 ∧ mem 67 8 ≤ 16) (k : ∀ (mem2 : zMem), (mem2 67 8 = znn (mem 67 8) ∧ (∀ k : Int, 0 ≤ k → k < 16 → mem2 72 k = zsh1 (mem 72) (mem 67 8) w k ∧ mem2 73 k = zsh1 (mem 73) (mem 67 8) v k)) → ((∀ a : Nat, a ≠ 67 → a ≠ 72 → a ≠ 73 → mem2 a = mem a) ∧ ∀ k : Int, k ≠ 8 → mem2 67 k = mem 67 k) → Q none (zS L) mem2) : zw_Ok l mm_X11_notes [zR 67, zI w, zI v] (zS L) mem Q := by
  refine zw_okA (fun hA => ?_)
  have rg_w : -2147483648 ≤ w ∧ w < 2147483648 := hA.2.1
  have rg_v : -2147483648 ≤ v ∧ v < 2147483648 := hA.2.2.1
  refine zw_enter (by decide) (Nat.le_of_ble_eq_true rfl) rfl ?_
  show zw_Wp l mm_X11_notes (zS L) 0 [some (zR 67), some (zI w), some (zI v), none] [] mem 0 0 Q
  refine wp_aload_n dd_X11_notes_0 rfl ?_
  refine wp_getZ 8 rfl dd_X11_notes_1 gf_X11_117 rfl kk_67 (by decide) (zlt rfl) ?_
  refine wp_bipush dd_X11_notes_4 (by decide) ?_
  refine wp_icmp_ne (tgt := 61) dd_X11_notes_6 (by decide) (fun c6_1 => ?_) (fun c6_1 => ?_)
  · skip
    refine wp_aload_n dd_X11_notes_61 rfl ?_
    refine wp_getR dd_X11_notes_62 gf_X11_40 rfl kk_67 (by decide) (zlt rfl) rr_67_6 ?_
    refine wp_aload_n dd_X11_notes_65 rfl ?_
    refine wp_getZ 8 rfl dd_X11_notes_66 gf_X11_117 rfl kk_67 (by decide) (zlt rfl) ?_
    refine wp_iload_n dd_X11_notes_69 rfl ?_
    refine wp_iast dd_X11_notes_70 kk_72 (zlt rfl) (by omega) (by omega) ?_
    refine wp_aload_n dd_X11_notes_71 rfl ?_
    refine wp_getR dd_X11_notes_72 gf_X11_43 rfl kk_67 (by decide) (zlt rfl) rr_67_7 ?_
    refine wp_aload_n dd_X11_notes_75 rfl ?_
    refine wp_getV 8 (v := mem 67 8) rfl (by rw [zu_row (by decide)]) dd_X11_notes_76 gf_X11_117 rfl kk_67 (by decide) (zlt rfl) ?_
    refine wp_iload_n dd_X11_notes_79 rfl ?_
    refine wp_iast dd_X11_notes_80 kk_73 (zlt rfl) (by omega) (by omega) ?_
    refine wp_aload_n dd_X11_notes_81 rfl ?_
    refine wp_dup dd_X11_notes_82 rfl ?_
    refine wp_getV 8 (v := mem 67 8) rfl (by rw [zu_row (by decide), zu_row (by decide)]) dd_X11_notes_83 gf_X11_117 rfl kk_67 (by decide) (zlt rfl) ?_
    refine wp_iconst dd_X11_notes_86 (zr_lit rfl) ?_
    refine wp_iaddC dd_X11_notes_87 (by omega) ?_
    refine wp_putzI 8 rfl dd_X11_notes_88 pf_X11_117 rfl kk_67 (by decide) (zlt rfl) ?_
    refine wp_return (st := []) dd_X11_notes_91 rfl ?_
    have u8 : mem 67 8 < 16 := by omega
    refine k _ ⟨?_, fun q q1 q2 => ⟨?_, ?_⟩⟩ ⟨fun a h1 h2 h3 => ?_, fun q hq => ?_⟩
    · rw [zu_s]; unfold znn; rw [if_neg (by omega)]
    · rw [zu_row (by omega), zu_row (by omega)]
      unfold zsh1
      rw [if_neg (by omega)]
      by_cases hq : q = mem 67 8
      · subst hq; rw [zu_s, if_pos rfl]
      · rw [zu_n (Or.inr hq), if_neg hq]
    · rw [zu_row (by omega)]
      unfold zsh1
      rw [if_neg (by omega)]
      by_cases hq : q = mem 67 8
      · subst hq; rw [zu_s, if_pos rfl]
      · rw [zu_n (Or.inr hq), if_neg hq, zu_row (by omega)]
    · rw [zu_row h1, zu_row h3, zu_row h2]
    · rw [zu_n (Or.inr hq), zu_row (by omega), zu_row (by omega)]
  · skip
    refine wp_iconst dd_X11_notes_9 (zr_lit rfl) ?_
    refine wp_istore_n (ls2 := [some (zR 67), some (zI w), some (zI v), some (zI 1)]) dd_X11_notes_10 rfl (by decide) rfl ?_
    have lp11 : ∀ (nf : Nat) (i : Int) (mm : zMem), (1 ≤ i) → (i ≤ 16) → (∀ k : Int, 0 ≤ k → k < 16 → mm 72 k = (if k < i - 1 then mem 72 (k + 1) else mem 72 k) ∧ mm 73 k = (if k < i - 1 then mem 73 (k + 1) else mem 73 k)) → (∀ a : Nat, a ≠ 72 → a ≠ 73 → mm a = mem a) → (16 - i) < (nf : Int) → zw_Wp l mm_X11_notes (zS L) 11 [some (zR 67), some (zI w), some (zI v), some (zI i)] [] mm 0 0 Q := by
      intro nf
      induction nf with
      | zero =>
        intro i mm h0 h1 h2 h3 hmu
        exfalso; omega
      | succ nf ih11 =>
        intro i mm h0 h1 h2 h3 hmu
        refine wp_iload_n dd_X11_notes_11 rfl ?_
        refine wp_bipush dd_X11_notes_12 (by decide) ?_
        refine wp_icmp_ge (tgt := 51) dd_X11_notes_14 (by decide) (fun c14_2 => ?_) (fun c14_2 => ?_)
        · skip
          have hm67 : mm 67 = mem 67 := h3 67 (by decide) (by decide)
          have hm8 : mm 67 8 = mem 67 8 := by rw [hm67]
          refine wp_aload_n dd_X11_notes_51 rfl ?_
          refine wp_dup dd_X11_notes_52 rfl ?_
          refine wp_getZ 8 rfl dd_X11_notes_53 gf_X11_117 rfl kk_67 (by decide) (zlt rfl) ?_
          refine wp_iconst dd_X11_notes_56 (zr_lit rfl) ?_
          refine wp_isubC dd_X11_notes_57 (by omega) ?_
          refine wp_putzI 8 rfl dd_X11_notes_58 pf_X11_117 rfl kk_67 (by decide) (zlt rfl) ?_
          refine wp_aload_n dd_X11_notes_61 rfl ?_
          refine wp_getR dd_X11_notes_62 gf_X11_40 rfl kk_67 (by decide) (zlt rfl) rr_67_6 ?_
          refine wp_aload_n dd_X11_notes_65 rfl ?_
          refine wp_getV 8 (v := (mm 67 8) - 1) rfl (by rw [zu_s]) dd_X11_notes_66 gf_X11_117 rfl kk_67 (by decide) (zlt rfl) ?_
          refine wp_iload_n dd_X11_notes_69 rfl ?_
          refine wp_iast dd_X11_notes_70 kk_72 (zlt rfl) (by omega) (by omega) ?_
          refine wp_aload_n dd_X11_notes_71 rfl ?_
          refine wp_getR dd_X11_notes_72 gf_X11_43 rfl kk_67 (by decide) (zlt rfl) rr_67_7 ?_
          refine wp_aload_n dd_X11_notes_75 rfl ?_
          refine wp_getV 8 (v := (mm 67 8) - 1) rfl (by rw [zu_row (by decide), zu_s]) dd_X11_notes_76 gf_X11_117 rfl kk_67 (by decide) (zlt rfl) ?_
          refine wp_iload_n dd_X11_notes_79 rfl ?_
          refine wp_iast dd_X11_notes_80 kk_73 (zlt rfl) (by omega) (by omega) ?_
          refine wp_aload_n dd_X11_notes_81 rfl ?_
          refine wp_dup dd_X11_notes_82 rfl ?_
          refine wp_getV 8 (v := (mm 67 8) - 1) rfl (by rw [zu_row (by decide), zu_row (by decide), zu_s]) dd_X11_notes_83 gf_X11_117 rfl kk_67 (by decide) (zlt rfl) ?_
          refine wp_iconst dd_X11_notes_86 (zr_lit rfl) ?_
          refine wp_iaddC dd_X11_notes_87 (by omega) ?_
          refine wp_putzI 8 rfl dd_X11_notes_88 pf_X11_117 rfl kk_67 (by decide) (zlt rfl) ?_
          refine wp_return (st := []) dd_X11_notes_91 rfl ?_
          refine k _ ⟨?_, fun q q1 q2 => ⟨?_, ?_⟩⟩ ⟨fun a h1 h2 h3a => ?_, fun q hq => ?_⟩
          · rw [zu_s]; unfold znn; rw [if_pos (by omega)]; omega
          · rw [zu_row (by omega), zu_row (by omega), show mm 67 8 - 1 = 15 by omega]
            unfold zsh1
            rw [if_pos (by omega)]
            by_cases hq : q = 15
            · subst hq; rw [zu_s, if_pos rfl]
            · rw [zu_n (Or.inr hq), if_neg hq, if_pos (by omega), zu_row (by omega), (h2 q q1 q2).1, if_pos (by omega)]
          · rw [zu_row (by omega), show mm 67 8 - 1 = 15 by omega]
            unfold zsh1
            rw [if_pos (by omega)]
            by_cases hq : q = 15
            · subst hq; rw [zu_s, if_pos rfl]
            · rw [zu_n (Or.inr hq), if_neg hq, if_pos (by omega), zu_row (by omega), zu_row (by omega), (h2 q q1 q2).2, if_pos (by omega)]
          · rw [zu_row h1, zu_row h3a, zu_row h2, zu_row h1]; exact h3 a h2 h3a
          · rw [zu_n (Or.inr hq), zu_row (by omega), zu_row (by omega), zu_n (Or.inr hq), hm67]
        · skip
          refine wp_aload_n dd_X11_notes_17 rfl ?_
          refine wp_getR dd_X11_notes_18 gf_X11_40 rfl kk_67 (by decide) (zlt rfl) rr_67_6 ?_
          refine wp_iload_n dd_X11_notes_21 rfl ?_
          refine wp_iconst dd_X11_notes_22 (zr_lit rfl) ?_
          refine wp_isubC dd_X11_notes_23 (by omega) ?_
          refine wp_aload_n dd_X11_notes_24 rfl ?_
          refine wp_getR dd_X11_notes_25 gf_X11_40 rfl kk_67 (by decide) (zlt rfl) rr_67_6 ?_
          refine wp_iload_n dd_X11_notes_28 rfl ?_
          refine wp_iald dd_X11_notes_29 kk_72 (zlt rfl) (by omega) (by omega) ?_
          refine wp_iast dd_X11_notes_30 kk_72 (zlt rfl) (by omega) (by omega) ?_
          refine wp_aload_n dd_X11_notes_31 rfl ?_
          refine wp_getR dd_X11_notes_32 gf_X11_43 rfl kk_67 (by decide) (zlt rfl) rr_67_7 ?_
          refine wp_iload_n dd_X11_notes_35 rfl ?_
          refine wp_iconst dd_X11_notes_36 (zr_lit rfl) ?_
          refine wp_isubC dd_X11_notes_37 (by omega) ?_
          refine wp_aload_n dd_X11_notes_38 rfl ?_
          refine wp_getR dd_X11_notes_39 gf_X11_43 rfl kk_67 (by decide) (zlt rfl) rr_67_7 ?_
          refine wp_iload_n dd_X11_notes_42 rfl ?_
          refine wp_ialdV (v := mm 73 i) (by rw [zu_row (by decide)]) dd_X11_notes_43 kk_73 (zlt rfl) (by omega) (by omega) ?_
          refine wp_iast dd_X11_notes_44 kk_73 (zlt rfl) (by omega) (by omega) ?_
          refine wp_iincC (ls2 := [some (zR 67), some (zI w), some (zI v), some (zI (i + 1))]) dd_X11_notes_45 rfl rfl (by decide) (by omega) rfl ?_
          refine wp_goto (tgt := 11) dd_X11_notes_48 (by decide) ?_
          refine ih11 (i + 1) (zu (zu mm 72 (i - 1) (mm 72 i)) 73 (i - 1) (mm 73 i)) ?_ ?_ ?_ ?_ ?_
          · first | omega | assumption | (intros; omega)
          · first | omega | assumption | (intros; omega)
          · intro k q1 q2
            by_cases hk : k = i - 1
            · subst hk
              refine ⟨?_, ?_⟩
              · rw [zu_row (by omega), zu_s, (h2 i (by omega) (by omega)).1, if_neg (show ¬ i < i - 1 by omega), if_pos (show i - 1 < i + 1 - 1 by omega), show i - 1 + 1 = i by omega]
              · rw [zu_s, (h2 i (by omega) (by omega)).2, if_neg (show ¬ i < i - 1 by omega), if_pos (show i - 1 < i + 1 - 1 by omega), show i - 1 + 1 = i by omega]
            · rw [zu_row (by omega), zu_n (Or.inr hk), zu_n (Or.inr hk), zu_row (by omega), (h2 k q1 q2).1, (h2 k q1 q2).2]
              by_cases hl : k < i - 1
              · rw [if_pos hl, if_pos hl, if_pos (by omega), if_pos (by omega)]; exact ⟨rfl, rfl⟩
              · rw [if_neg hl, if_neg hl, if_neg (by omega), if_neg (by omega)]; exact ⟨rfl, rfl⟩
          · intro a h1 h2; rw [zu_row h2, zu_row h1]; exact h3 a h1 h2
          · omega
    refine lp11 ((16 - 1 : Int)).toNat.succ 1 mem ?_ ?_ ?_ ?_ ?_
    · first | omega | assumption | (intros; omega)
    · first | omega | assumption | (intros; omega)
    · intro k q1 q2; exact ⟨by rw [if_neg (by omega)], by rw [if_neg (by omega)]⟩
    · intros; rfl
    · omega

