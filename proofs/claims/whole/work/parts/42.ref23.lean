/-! ===== the reference: terms in their orders ===== -/
def zdI (s t : Int) : Int := if t < s then 0 else if 4 < (t - s) / 4 then 5 else (t - s) / 4 + 1
theorem zk1_step {c : Int → Int} {k s t : Int} (hs : 0 ≤ s ∧ s ≤ 8) (ht : 0 ≤ t ∧ t ≤ 24) : zk1 c k (5 * s + zdI s t).toNat = if t / 5 + t % 5 = s ∧ c t ≠ 0 then (if k = 0 then 10 * (t / 5) + t % 5 else zk1 c (k - 1) (5 * s + zdI s (t - 1)).toNat) else zk1 c k (5 * s + zdI s (t - 1)).toNat := by
  by_cases e : zdI s t = zdI s (t - 1)
  · rw [e, if_neg]
    intro q
    have q1 := q.1
    unfold zdI at e
    omega
  · have e1 : zdI s t = zdI s (t - 1) + 1 ∧ 0 ≤ zdI s (t - 1) ∧ zdI s (t - 1) ≤ 4 ∧ t - s = 4 * zdI s (t - 1) := by
      unfold zdI at e ⊢
      omega
    obtain ⟨e1, e2, e3, e4⟩ := e1
    rw [e1]
    clear e e1
    generalize zdI s (t - 1) = i0 at *
    rw [show (5 * s + (i0 + 1)).toNat = (5 * s + i0).toNat + 1 by omega, zk1, show (((5 * s + i0).toNat : Nat) : Int) = 5 * s + i0 by omega, show (5 * s + i0) / 5 = s by omega, show (5 * s + i0) % 5 = i0 by omega]
    have e5 : 5 * i0 + (s - i0) = t := by omega
    by_cases g : t / 5 + t % 5 = s ∧ c t ≠ 0
    · rw [if_pos g, if_pos ⟨by omega, by omega, by rw [e5]; exact g.2⟩, show 10 * i0 + (s - i0) = 10 * (t / 5) + t % 5 by omega]
    · rw [if_neg g, if_neg (fun q => g ⟨by omega, by have q3 := q.2.2; rw [e5] at q3; exact q3⟩)]
theorem zk0_step {c : Int → Int} {k t : Int} (ht : 0 ≤ t) : zk0 c k (t + 1).toNat = if c t ≠ 0 then (if k = 0 then 10 * (t / 5) + t % 5 else zk0 c (k - 1) (t - 1 + 1).toNat) else zk0 c k (t - 1 + 1).toNat := by
  rw [show (t + 1).toNat = (t - 1 + 1).toNat + 1 by omega, zk0, show (((t - 1 + 1).toNat : Nat) : Int) = t by omega]
  by_cases h : c t = 0
  · rw [if_pos h, if_neg (fun q => q h)]
  · rw [if_neg h, if_pos h]
/-- what is still to be looked at -/
def zkr (od : Int) (c : Int → Int) (k s t : Int) : Int := if od = 0 then zk0 c k (t + 1).toNat else zk1 c k (5 * s + zdI s t).toNat
theorem zkr_step {od : Int} {c : Int → Int} {k s t : Int} (hs : 0 ≤ s ∧ s ≤ 8) (ht : 0 ≤ t ∧ t ≤ 24) : zkr od c k s t = if (od = 0 ∨ t / 5 + t % 5 = s) ∧ c t ≠ 0 then (if k = 0 then 10 * (t / 5) + t % 5 else zkr od c (k - 1) s (t - 1)) else zkr od c k s (t - 1) := by
  unfold zkr
  by_cases h : od = 0
  · rw [if_pos h, if_pos h, if_pos h, zk0_step ht.1]
    by_cases g : c t ≠ 0
    · rw [if_pos g, if_pos (show (od = 0 ∨ t / 5 + t % 5 = s) ∧ c t ≠ 0 from ⟨Or.inl h, g⟩)]
    · rw [if_neg g, if_neg (fun q => g q.2)]
  · rw [if_neg h, if_neg h, if_neg h, zk1_step hs ht]
    by_cases g : t / 5 + t % 5 = s ∧ c t ≠ 0
    · rw [if_pos g, if_pos (show (od = 0 ∨ t / 5 + t % 5 = s) ∧ c t ≠ 0 from ⟨Or.inr g.1, g.2⟩)]
    · rw [if_neg g, if_neg (fun q => g ⟨by have := q.1; omega, q.2⟩)]
def zyK (mem : zMem) (q od k : Int) : Int := if ¬ (0 ≤ q ∧ q < mem 67 5) then -1 else if ¬ (0 ≤ od ∧ od ≤ 1) then -2 else if k < 0 then -4 else 0
def zkt (od : Int) (c : Int → Int) (k : Int) : Int := if od = 0 then zk0 c k 25 else zk1 c k 45

set_option maxRecDepth 100000 in
set_option maxHeartbeats 4000000 in
theorem sp_X11_term {l : Launch} {L : Nat} {mem : zMem} {Q : zQ}  (q : Int) (od : Int) (k0 : Int) (hp : zPr (mem 67 1)) (hn : 0 ≤ mem 67 5 ∧ mem 67 5 ≤ 6) (hTa : ∀ q : Int, 0 ≤ q → q < mem 67 5 → zT mem q) (k : ∀ (r : Int) (mem2 : zMem), ((zyK mem q od k0 ≠ 0 ∧ r = zyK mem q od k0 ∧ mem2 = zno mem (zyK mem q od k0)) ∨ (zyK mem q od k0 = 0 ∧ r = zkt od (zco mem q) k0 ∧ mem2 = mem)) → Q (some (zI r)) (zS L) mem2) : zw_Ok l mm_X11_term [zR 67, zI q, zI od, zI k0] (zS L) mem Q := by
  refine zw_okA (fun hA => ?_)
  have rg_q : -2147483648 ≤ q ∧ q < 2147483648 := hA.2.1
  have rg_od : -2147483648 ≤ od ∧ od < 2147483648 := hA.2.2.1
  have rg_k0 : -2147483648 ≤ k0 ∧ k0 < 2147483648 := hA.2.2.2.1
  refine zw_enter (by decide) (Nat.le_of_ble_eq_true rfl) rfl ?_
  show zw_Wp l mm_X11_term (zS L) 0 [some (zR 67), some (zI q), some (zI od), some (zI k0), none, none, none, none, none, none] [] mem 0 0 Q
  have hpr := hp.rg
  refine wp_aload_n dd_X11_term_0 rfl ?_
  refine wp_iload_n dd_X11_term_1 rfl ?_
  refine wp_callV (M' := mm_X11_isPoly) (As := [zI q]) (rest := []) dd_X11_term_2 lk_X11_154 mV_X11_isPoly kk_67 (zlt rfl) ⟨_, _, rfl⟩ rfl (by decide) (by decide) (Nat.le_of_ble_eq_true rfl) rfl (sp_X11_isPoly  q (by first | assumption | omega) ?_)
  show zw_Wp l mm_X11_term (zS L) 5 [some (zR 67), some (zI q), some (zI od), some (zI k0), none, none, none, none, none, none] [zI (if 0 ≤ q ∧ q < mem 67 5 then 1 else 0)] mem 0 0 Q
  refine wp_if_ne (tgt := 12) dd_X11_term_5 (by decide) (fun c5_1 => ?_) (fun c5_1 => ?_)
  · skip
    refine wp_iload_n dd_X11_term_12 rfl ?_
    refine wp_iconst dd_X11_term_13 (zr_lit rfl) ?_
    refine wp_iconst dd_X11_term_14 (zr_lit rfl) ?_
    refine wp_callS (M' := mm_X11_isIn) (As := [zI od, zI 0, zI 1]) (rest := []) dd_X11_term_15 lk_X11_21 mS_X11_isIn rfl (by decide) (by decide) (Nat.le_of_ble_eq_true rfl) rfl (sp_X11_isIn  od 0 1  ?_)
    show zw_Wp l mm_X11_term (zS L) 18 [some (zR 67), some (zI q), some (zI od), some (zI k0), none, none, none, none, none, none] [zI (if 0 ≤ od ∧ od ≤ 1 then 1 else 0)] mem 0 0 Q
    refine wp_if_ne (tgt := 26) dd_X11_term_18 (by decide) (fun c18_2 => ?_) (fun c18_2 => ?_)
    · skip
      refine wp_iload_n dd_X11_term_26 rfl ?_
      refine wp_if_ge (tgt := 35) dd_X11_term_27 (by decide) (fun c27_3 => ?_) (fun c27_3 => ?_)
      · skip
        refine wp_iconst dd_X11_term_35 (zr_lit rfl) ?_
        refine wp_istore (ls2 := [some (zR 67), some (zI q), some (zI od), some (zI k0), some (zI 0), none, none, none, none, none]) dd_X11_term_36 rfl (by decide) rfl ?_
        refine wp_iload dd_X11_term_38 rfl ?_
        refine wp_if_eq (tgt := 50) dd_X11_term_40 (by decide) (fun c40_4 => ?_) (fun c40_4 => absurd c40_4 (by decide))
        have hz : zyK mem q od k0 = 0 := by unfold zyK; repeat first | rw [if_pos (by omega)] | rw [if_neg (by omega)]
        have hT := hTa q (by omega) (by omega)
        refine wp_iconst dd_X11_term_50 (zr_lit rfl) ?_
        refine wp_istore (ls2 := [some (zR 67), some (zI q), some (zI od), some (zI k0), some (zI 0), some (zI 0), none, none, none, none]) dd_X11_term_51 rfl (by decide) rfl ?_
        refine wp_iload_n dd_X11_term_53 rfl ?_
        refine wp_if_ne (tgt := 61) dd_X11_term_54 (by decide) (fun c54_5 => ?_) (fun c54_5 => ?_)
        · skip
          refine wp_bipush dd_X11_term_61 (by decide) ?_
          refine wp_istore (ls2 := [some (zR 67), some (zI q), some (zI od), some (zI k0), some (zI 0), some (zI 0), some (zI 8), none, none, none]) dd_X11_term_63 rfl (by decide) rfl ?_
          have lp65 : ∀ (nf : Nat) (n : Int) (s : Int), (-1 ≤ s) → (s ≤ 8) → (od = 0 → s ≤ 0) → (0 ≤ n) → (n ≤ 25 * (8 - s)) → (n ≤ k0) → (zkt od (zco mem q) k0 = if s = -1 then -9 else zkr od (zco mem q) (k0 - n) s 24) → (s + 1) < (nf : Int) → zw_Wp l mm_X11_term (zS L) 65 [some (zR 67), some (zI q), some (zI od), some (zI k0), some (zI 0), some (zI n), some (zI s), none, none, none] [] mem 0 0 Q := by
            intro nf
            induction nf with
            | zero =>
              intro n s s0 s1 so n0 n1 nk h2 hmu
              exfalso; omega
            | succ nf ih65 =>
              intro n s s0 s1 so n0 n1 nk h2 hmu
              refine wp_iload dd_X11_term_65 rfl ?_
              refine wp_if_lt (tgt := 151) dd_X11_term_67 (by decide) (fun c67_6 => ?_) (fun c67_6 => ?_)
              · skip
                refine wp_bipush dd_X11_term_151 (by decide) ?_
                refine wp_ireturn (st := []) dd_X11_term_153 rfl ?_
                refine k _ _ (Or.inr ⟨hz, ?_, rfl⟩)
                rw [h2, if_pos (by omega)]
              · skip
                refine wp_bipush dd_X11_term_70 (by decide) ?_
                refine wp_istore (ls2 := [some (zR 67), some (zI q), some (zI od), some (zI k0), some (zI 0), some (zI n), some (zI s), some (zI 24), none, none]) dd_X11_term_72 rfl (by decide) rfl ?_
                have lp74 : ∀ (nf : Nat) (n : Int) (t : Int), (-1 ≤ t) → (t ≤ 24) → (0 ≤ n) → (n ≤ 25 * (8 - s) + (24 - t)) → (n ≤ k0) → (zkt od (zco mem q) k0 = zkr od (zco mem q) (k0 - n) s t) → (t + 1) < (nf : Int) → zw_Wp l mm_X11_term (zS L) 74 [some (zR 67), some (zI q), some (zI od), some (zI k0), some (zI 0), some (zI n), some (zI s), some (zI t), none, none] [] mem 0 0 Q := by
                  intro nf
                  induction nf with
                  | zero =>
                    intro n t t0 t1 m0 m1 mk h5 hmu
                    exfalso; omega
                  | succ nf ih74 =>
                    intro n t t0 t1 m0 m1 mk h5 hmu
                    refine wp_iload dd_X11_term_74 rfl ?_
                    refine wp_if_lt (tgt := 145) dd_X11_term_76 (by decide) (fun c76_7 => ?_) (fun c76_7 => ?_)
                    · skip
                      refine wp_iincC (ls2 := [some (zR 67), some (zI q), some (zI od), some (zI k0), some (zI 0), some (zI n), some (zI (s + (-1))), some (zI t), none, none]) dd_X11_term_145 rfl rfl (by decide) (by omega) rfl ?_
                      refine wp_goto (tgt := 65) dd_X11_term_148 (by decide) ?_
                      refine wp_ls (zw_sub_of (a := [some (zR 67), some (zI q), some (zI od), some (zI k0), some (zI 0), some (zI n), some (zI (s + (-1))), none, none, none]) (And.intro rfl (And.intro rfl (And.intro rfl (And.intro rfl (And.intro rfl (And.intro rfl (And.intro rfl (trivial))))))))) ?_
                      refine ih65 n (s + (-1)) ?_ ?_ ?_ ?_ ?_ ?_ ?_ ?_
                      · first | omega | assumption | (intros; omega)
                      · first | omega | assumption | (intros; omega)
                      · first | omega | assumption | (intros; omega)
                      · first | omega | assumption | (intros; omega)
                      · first | omega | assumption | (intros; omega)
                      · first | omega | assumption | (intros; omega)
                      · rw [h5, show t = -1 by omega]
                        unfold zkr
                        by_cases ho : od = 0
                        · rw [if_pos ho, if_pos (by omega)]; rfl
                        · rw [if_neg ho, if_neg ho, show zdI s (-1) = 0 by unfold zdI; omega]
                          by_cases h9 : s = 0
                          · rw [if_pos (by omega), h9]; rfl
                          · rw [if_neg (by omega), show zdI (s + -1) 24 = 5 by unfold zdI; omega, show 5 * (s + -1) + 5 = 5 * s + 0 by omega]
                      · omega
                    · skip
                      refine wp_iload dd_X11_term_79 rfl ?_
                      refine wp_iconst dd_X11_term_81 (zr_lit rfl) ?_
                      refine wp_idivP dd_X11_term_82 (by omega) (by omega) ?_
                      refine wp_istore (ls2 := [some (zR 67), some (zI q), some (zI od), some (zI k0), some (zI 0), some (zI n), some (zI s), some (zI t), some (zI (t / 5)), none]) dd_X11_term_83 rfl (by decide) rfl ?_
                      refine wp_iload dd_X11_term_85 rfl ?_
                      refine wp_iconst dd_X11_term_87 (zr_lit rfl) ?_
                      refine wp_iremP dd_X11_term_88 (by omega) (by omega) ?_
                      refine wp_istore (ls2 := [some (zR 67), some (zI q), some (zI od), some (zI k0), some (zI 0), some (zI n), some (zI s), some (zI t), some (zI (t / 5)), some (zI (t % 5))]) dd_X11_term_89 rfl (by decide) rfl ?_
                      refine wp_iload_n dd_X11_term_91 rfl ?_
                      refine wp_iconst dd_X11_term_92 (zr_lit rfl) ?_
                      refine wp_icmp_ne (tgt := 106) dd_X11_term_93 (by decide) (fun c93_8 => ?_) (fun c93_8 => ?_)
                      · skip
                        refine wp_aload_n dd_X11_term_106 rfl ?_
                        refine wp_iload_n dd_X11_term_107 rfl ?_
                        refine wp_iload dd_X11_term_108 rfl ?_
                        refine wp_iload dd_X11_term_110 rfl ?_
                        refine wp_callV (M' := mm_X11_isTerm) (As := [zI q, zI (t / 5), zI (t % 5)]) (rest := []) dd_X11_term_112 lk_X11_111 mV_X11_isTerm kk_67 (zlt rfl) ⟨_, _, rfl⟩ rfl (by decide) (by decide) (Nat.le_of_ble_eq_true rfl) rfl (sp_X11_isTerm  q (t / 5) (t % 5) (by first | assumption | omega) hT (by first | assumption | omega) (by first | assumption | omega) ?_)
                        show zw_Wp l mm_X11_term (zS L) 115 [some (zR 67), some (zI q), some (zI od), some (zI k0), some (zI 0), some (zI n), some (zI s), some (zI t), some (zI (t / 5)), some (zI (t % 5))] [zI (if zcf (mem 70 q) (mem 71 q) (mem 67 1) (ztd mem q) (t / 5) (t % 5) = 0 then 0 else 1)] mem 0 0 Q
                        refine wp_if_ne (tgt := 121) dd_X11_term_115 (by decide) (fun c115_9 => ?_) (fun c115_9 => ?_)
                        · skip
                          refine wp_iload dd_X11_term_121 rfl ?_
                          refine wp_iload_n dd_X11_term_123 rfl ?_
                          refine wp_icmp_ne (tgt := 136) dd_X11_term_124 (by decide) (fun c124_10 => ?_) (fun c124_10 => ?_)
                          · skip
                            refine wp_iincC (ls2 := [some (zR 67), some (zI q), some (zI od), some (zI k0), some (zI 0), some (zI (n + 1)), some (zI s), some (zI t), some (zI (t / 5)), some (zI (t % 5))]) dd_X11_term_136 rfl rfl (by decide) (by omega) rfl ?_
                            refine wp_iincC (ls2 := [some (zR 67), some (zI q), some (zI od), some (zI k0), some (zI 0), some (zI (n + 1)), some (zI s), some (zI (t + (-1))), some (zI (t / 5)), some (zI (t % 5))]) dd_X11_term_139 rfl rfl (by decide) (by omega) rfl ?_
                            refine wp_goto (tgt := 74) dd_X11_term_142 (by decide) ?_
                            refine wp_ls (zw_sub_of (a := [some (zR 67), some (zI q), some (zI od), some (zI k0), some (zI 0), some (zI (n + 1)), some (zI s), some (zI (t + (-1))), none, none]) (And.intro rfl (And.intro rfl (And.intro rfl (And.intro rfl (And.intro rfl (And.intro rfl (And.intro rfl (And.intro rfl (trivial)))))))))) ?_
                            refine ih74 (n + 1) (t + (-1)) ?_ ?_ ?_ ?_ ?_ ?_ ?_
                            · first | omega | assumption | (intros; omega)
                            · first | omega | assumption | (intros; omega)
                            · first | omega | assumption | (intros; omega)
                            · first | omega | assumption | (intros; omega)
                            · first | omega | assumption | (intros; omega)
                            · have hct : zcf (mem 70 q) (mem 71 q) (mem 67 1) (ztd mem q) (t / 5) (t % 5) = zco mem q t := rfl
                              rw [h5, zkr_step (by omega) (by omega)]
                              first
                              | (rw [if_pos ⟨by omega, by omega⟩, if_neg (by omega), show k0 - n - 1 = k0 - (n + 1) by omega]; rfl)
                              | (rw [if_neg (fun q => by have q1 := q.1; omega)]; rfl)
                              | (rw [if_neg (fun q => by have q1 := q.2; omega)]; rfl)
                            · omega
                          · skip
                            refine wp_bipush dd_X11_term_127 (by decide) ?_
                            refine wp_iload dd_X11_term_129 rfl ?_
                            refine wp_imulC dd_X11_term_131 (by omega) ?_
                            refine wp_iload dd_X11_term_132 rfl ?_
                            refine wp_iaddC dd_X11_term_134 (by omega) ?_
                            refine wp_ireturn (st := []) dd_X11_term_135 rfl ?_
                            have hct : zcf (mem 70 q) (mem 71 q) (mem 67 1) (ztd mem q) (t / 5) (t % 5) = zco mem q t := rfl
                            refine k _ _ (Or.inr ⟨hz, ?_, rfl⟩)
                            rw [h5, zkr_step (by omega) (by omega), if_pos ⟨by omega, by omega⟩, if_pos (by omega)]
                        · skip
                          refine wp_goto (tgt := 139) dd_X11_term_118 (by decide) ?_
                          refine wp_iincC (ls2 := [some (zR 67), some (zI q), some (zI od), some (zI k0), some (zI 0), some (zI n), some (zI s), some (zI (t + (-1))), some (zI (t / 5)), some (zI (t % 5))]) dd_X11_term_139 rfl rfl (by decide) (by omega) rfl ?_
                          refine wp_goto (tgt := 74) dd_X11_term_142 (by decide) ?_
                          refine wp_ls (zw_sub_of (a := [some (zR 67), some (zI q), some (zI od), some (zI k0), some (zI 0), some (zI n), some (zI s), some (zI (t + (-1))), none, none]) (And.intro rfl (And.intro rfl (And.intro rfl (And.intro rfl (And.intro rfl (And.intro rfl (And.intro rfl (And.intro rfl (trivial)))))))))) ?_
                          refine ih74 n (t + (-1)) ?_ ?_ ?_ ?_ ?_ ?_ ?_
                          · first | omega | assumption | (intros; omega)
                          · first | omega | assumption | (intros; omega)
                          · first | omega | assumption | (intros; omega)
                          · first | omega | assumption | (intros; omega)
                          · first | omega | assumption | (intros; omega)
                          · have hct : zcf (mem 70 q) (mem 71 q) (mem 67 1) (ztd mem q) (t / 5) (t % 5) = zco mem q t := rfl
                            rw [h5, zkr_step (by omega) (by omega)]
                            first
                            | (rw [if_pos ⟨by omega, by omega⟩, if_neg (by omega), show k0 - n - 1 = k0 - (n + 1) by omega]; rfl)
                            | (rw [if_neg (fun q => by have q1 := q.1; omega)]; rfl)
                            | (rw [if_neg (fun q => by have q1 := q.2; omega)]; rfl)
                          · omega
                      · skip
                        refine wp_iload dd_X11_term_96 rfl ?_
                        refine wp_iload dd_X11_term_98 rfl ?_
                        refine wp_iaddC dd_X11_term_100 (by omega) ?_
                        refine wp_iload dd_X11_term_101 rfl ?_
                        refine wp_icmp_ne (tgt := 139) dd_X11_term_103 (by decide) (fun c103_11 => ?_) (fun c103_11 => ?_)
                        · skip
                          refine wp_iincC (ls2 := [some (zR 67), some (zI q), some (zI od), some (zI k0), some (zI 0), some (zI n), some (zI s), some (zI (t + (-1))), some (zI (t / 5)), some (zI (t % 5))]) dd_X11_term_139 rfl rfl (by decide) (by omega) rfl ?_
                          refine wp_goto (tgt := 74) dd_X11_term_142 (by decide) ?_
                          refine wp_ls (zw_sub_of (a := [some (zR 67), some (zI q), some (zI od), some (zI k0), some (zI 0), some (zI n), some (zI s), some (zI (t + (-1))), none, none]) (And.intro rfl (And.intro rfl (And.intro rfl (And.intro rfl (And.intro rfl (And.intro rfl (And.intro rfl (And.intro rfl (trivial)))))))))) ?_
                          refine ih74 n (t + (-1)) ?_ ?_ ?_ ?_ ?_ ?_ ?_
                          · first | omega | assumption | (intros; omega)
                          · first | omega | assumption | (intros; omega)
                          · first | omega | assumption | (intros; omega)
                          · first | omega | assumption | (intros; omega)
                          · first | omega | assumption | (intros; omega)
                          · have hct : zcf (mem 70 q) (mem 71 q) (mem 67 1) (ztd mem q) (t / 5) (t % 5) = zco mem q t := rfl
                            rw [h5, zkr_step (by omega) (by omega)]
                            first
                            | (rw [if_pos ⟨by omega, by omega⟩, if_neg (by omega), show k0 - n - 1 = k0 - (n + 1) by omega]; rfl)
                            | (rw [if_neg (fun q => by have q1 := q.1; omega)]; rfl)
                            | (rw [if_neg (fun q => by have q1 := q.2; omega)]; rfl)
                          · omega
                        · skip
                          refine wp_aload_n dd_X11_term_106 rfl ?_
                          refine wp_iload_n dd_X11_term_107 rfl ?_
                          refine wp_iload dd_X11_term_108 rfl ?_
                          refine wp_iload dd_X11_term_110 rfl ?_
                          refine wp_callV (M' := mm_X11_isTerm) (As := [zI q, zI (t / 5), zI (t % 5)]) (rest := []) dd_X11_term_112 lk_X11_111 mV_X11_isTerm kk_67 (zlt rfl) ⟨_, _, rfl⟩ rfl (by decide) (by decide) (Nat.le_of_ble_eq_true rfl) rfl (sp_X11_isTerm  q (t / 5) (t % 5) (by first | assumption | omega) hT (by first | assumption | omega) (by first | assumption | omega) ?_)
                          show zw_Wp l mm_X11_term (zS L) 115 [some (zR 67), some (zI q), some (zI od), some (zI k0), some (zI 0), some (zI n), some (zI s), some (zI t), some (zI (t / 5)), some (zI (t % 5))] [zI (if zcf (mem 70 q) (mem 71 q) (mem 67 1) (ztd mem q) (t / 5) (t % 5) = 0 then 0 else 1)] mem 0 0 Q
                          refine wp_if_ne (tgt := 121) dd_X11_term_115 (by decide) (fun c115_12 => ?_) (fun c115_12 => ?_)
                          · skip
                            refine wp_iload dd_X11_term_121 rfl ?_
                            refine wp_iload_n dd_X11_term_123 rfl ?_
                            refine wp_icmp_ne (tgt := 136) dd_X11_term_124 (by decide) (fun c124_13 => ?_) (fun c124_13 => ?_)
                            · skip
                              refine wp_iincC (ls2 := [some (zR 67), some (zI q), some (zI od), some (zI k0), some (zI 0), some (zI (n + 1)), some (zI s), some (zI t), some (zI (t / 5)), some (zI (t % 5))]) dd_X11_term_136 rfl rfl (by decide) (by omega) rfl ?_
                              refine wp_iincC (ls2 := [some (zR 67), some (zI q), some (zI od), some (zI k0), some (zI 0), some (zI (n + 1)), some (zI s), some (zI (t + (-1))), some (zI (t / 5)), some (zI (t % 5))]) dd_X11_term_139 rfl rfl (by decide) (by omega) rfl ?_
                              refine wp_goto (tgt := 74) dd_X11_term_142 (by decide) ?_
                              refine wp_ls (zw_sub_of (a := [some (zR 67), some (zI q), some (zI od), some (zI k0), some (zI 0), some (zI (n + 1)), some (zI s), some (zI (t + (-1))), none, none]) (And.intro rfl (And.intro rfl (And.intro rfl (And.intro rfl (And.intro rfl (And.intro rfl (And.intro rfl (And.intro rfl (trivial)))))))))) ?_
                              refine ih74 (n + 1) (t + (-1)) ?_ ?_ ?_ ?_ ?_ ?_ ?_
                              · first | omega | assumption | (intros; omega)
                              · first | omega | assumption | (intros; omega)
                              · first | omega | assumption | (intros; omega)
                              · first | omega | assumption | (intros; omega)
                              · first | omega | assumption | (intros; omega)
                              · have hct : zcf (mem 70 q) (mem 71 q) (mem 67 1) (ztd mem q) (t / 5) (t % 5) = zco mem q t := rfl
                                rw [h5, zkr_step (by omega) (by omega)]
                                first
                                | (rw [if_pos ⟨by omega, by omega⟩, if_neg (by omega), show k0 - n - 1 = k0 - (n + 1) by omega]; rfl)
                                | (rw [if_neg (fun q => by have q1 := q.1; omega)]; rfl)
                                | (rw [if_neg (fun q => by have q1 := q.2; omega)]; rfl)
                              · omega
                            · skip
                              refine wp_bipush dd_X11_term_127 (by decide) ?_
                              refine wp_iload dd_X11_term_129 rfl ?_
                              refine wp_imulC dd_X11_term_131 (by omega) ?_
                              refine wp_iload dd_X11_term_132 rfl ?_
                              refine wp_iaddC dd_X11_term_134 (by omega) ?_
                              refine wp_ireturn (st := []) dd_X11_term_135 rfl ?_
                              have hct : zcf (mem 70 q) (mem 71 q) (mem 67 1) (ztd mem q) (t / 5) (t % 5) = zco mem q t := rfl
                              refine k _ _ (Or.inr ⟨hz, ?_, rfl⟩)
                              rw [h5, zkr_step (by omega) (by omega), if_pos ⟨by omega, by omega⟩, if_pos (by omega)]
                          · skip
                            refine wp_goto (tgt := 139) dd_X11_term_118 (by decide) ?_
                            refine wp_iincC (ls2 := [some (zR 67), some (zI q), some (zI od), some (zI k0), some (zI 0), some (zI n), some (zI s), some (zI (t + (-1))), some (zI (t / 5)), some (zI (t % 5))]) dd_X11_term_139 rfl rfl (by decide) (by omega) rfl ?_
                            refine wp_goto (tgt := 74) dd_X11_term_142 (by decide) ?_
                            refine wp_ls (zw_sub_of (a := [some (zR 67), some (zI q), some (zI od), some (zI k0), some (zI 0), some (zI n), some (zI s), some (zI (t + (-1))), none, none]) (And.intro rfl (And.intro rfl (And.intro rfl (And.intro rfl (And.intro rfl (And.intro rfl (And.intro rfl (And.intro rfl (trivial)))))))))) ?_
                            refine ih74 n (t + (-1)) ?_ ?_ ?_ ?_ ?_ ?_ ?_
                            · first | omega | assumption | (intros; omega)
                            · first | omega | assumption | (intros; omega)
                            · first | omega | assumption | (intros; omega)
                            · first | omega | assumption | (intros; omega)
                            · first | omega | assumption | (intros; omega)
                            · have hct : zcf (mem 70 q) (mem 71 q) (mem 67 1) (ztd mem q) (t / 5) (t % 5) = zco mem q t := rfl
                              rw [h5, zkr_step (by omega) (by omega)]
                              first
                              | (rw [if_pos ⟨by omega, by omega⟩, if_neg (by omega), show k0 - n - 1 = k0 - (n + 1) by omega]; rfl)
                              | (rw [if_neg (fun q => by have q1 := q.1; omega)]; rfl)
                              | (rw [if_neg (fun q => by have q1 := q.2; omega)]; rfl)
                            · omega
                refine lp74 ((24 + 1 : Int)).toNat.succ n 24 ?_ ?_ ?_ ?_ ?_ ?_ ?_
                · first | omega | assumption | (intros; omega)
                · first | omega | assumption | (intros; omega)
                · first | omega | assumption | (intros; omega)
                · first | omega | assumption | (intros; omega)
                · first | omega | assumption | (intros; omega)
                · rw [h2, if_neg (by omega)]
                · omega
          refine lp65 ((8 + 1 : Int)).toNat.succ 0 8 ?_ ?_ ?_ ?_ ?_ ?_ ?_ ?_
          · first | omega | assumption | (intros; omega)
          · first | omega | assumption | (intros; omega)
          · first | omega | assumption | (intros; omega)
          · first | omega | assumption | (intros; omega)
          · first | omega | assumption | (intros; omega)
          · first | omega | assumption | (intros; omega)
          · rw [if_neg (by omega), Int.sub_zero]
            unfold zkt zkr
            first
            | (rw [if_pos (by omega), if_pos (by omega)]; rfl)
            | (rw [if_neg (by omega), if_neg (by omega)]; rfl)
          · omega
        · skip
          refine wp_iconst dd_X11_term_57 (zr_lit rfl) ?_
          refine wp_goto (tgt := 63) dd_X11_term_58 (by decide) ?_
          refine wp_istore (ls2 := [some (zR 67), some (zI q), some (zI od), some (zI k0), some (zI 0), some (zI 0), some (zI 0), none, none, none]) dd_X11_term_63 rfl (by decide) rfl ?_
          have lp65 : ∀ (nf : Nat) (n : Int) (s : Int), (-1 ≤ s) → (s ≤ 8) → (od = 0 → s ≤ 0) → (0 ≤ n) → (n ≤ 25 * (8 - s)) → (n ≤ k0) → (zkt od (zco mem q) k0 = if s = -1 then -9 else zkr od (zco mem q) (k0 - n) s 24) → (s + 1) < (nf : Int) → zw_Wp l mm_X11_term (zS L) 65 [some (zR 67), some (zI q), some (zI od), some (zI k0), some (zI 0), some (zI n), some (zI s), none, none, none] [] mem 0 0 Q := by
            intro nf
            induction nf with
            | zero =>
              intro n s s0 s1 so n0 n1 nk h2 hmu
              exfalso; omega
            | succ nf ih65 =>
              intro n s s0 s1 so n0 n1 nk h2 hmu
              refine wp_iload dd_X11_term_65 rfl ?_
              refine wp_if_lt (tgt := 151) dd_X11_term_67 (by decide) (fun c67_14 => ?_) (fun c67_14 => ?_)
              · skip
                refine wp_bipush dd_X11_term_151 (by decide) ?_
                refine wp_ireturn (st := []) dd_X11_term_153 rfl ?_
                refine k _ _ (Or.inr ⟨hz, ?_, rfl⟩)
                rw [h2, if_pos (by omega)]
              · skip
                refine wp_bipush dd_X11_term_70 (by decide) ?_
                refine wp_istore (ls2 := [some (zR 67), some (zI q), some (zI od), some (zI k0), some (zI 0), some (zI n), some (zI s), some (zI 24), none, none]) dd_X11_term_72 rfl (by decide) rfl ?_
                have lp74 : ∀ (nf : Nat) (n : Int) (t : Int), (-1 ≤ t) → (t ≤ 24) → (0 ≤ n) → (n ≤ 25 * (8 - s) + (24 - t)) → (n ≤ k0) → (zkt od (zco mem q) k0 = zkr od (zco mem q) (k0 - n) s t) → (t + 1) < (nf : Int) → zw_Wp l mm_X11_term (zS L) 74 [some (zR 67), some (zI q), some (zI od), some (zI k0), some (zI 0), some (zI n), some (zI s), some (zI t), none, none] [] mem 0 0 Q := by
                  intro nf
                  induction nf with
                  | zero =>
                    intro n t t0 t1 m0 m1 mk h5 hmu
                    exfalso; omega
                  | succ nf ih74 =>
                    intro n t t0 t1 m0 m1 mk h5 hmu
                    refine wp_iload dd_X11_term_74 rfl ?_
                    refine wp_if_lt (tgt := 145) dd_X11_term_76 (by decide) (fun c76_15 => ?_) (fun c76_15 => ?_)
                    · skip
                      refine wp_iincC (ls2 := [some (zR 67), some (zI q), some (zI od), some (zI k0), some (zI 0), some (zI n), some (zI (s + (-1))), some (zI t), none, none]) dd_X11_term_145 rfl rfl (by decide) (by omega) rfl ?_
                      refine wp_goto (tgt := 65) dd_X11_term_148 (by decide) ?_
                      refine wp_ls (zw_sub_of (a := [some (zR 67), some (zI q), some (zI od), some (zI k0), some (zI 0), some (zI n), some (zI (s + (-1))), none, none, none]) (And.intro rfl (And.intro rfl (And.intro rfl (And.intro rfl (And.intro rfl (And.intro rfl (And.intro rfl (trivial))))))))) ?_
                      refine ih65 n (s + (-1)) ?_ ?_ ?_ ?_ ?_ ?_ ?_ ?_
                      · first | omega | assumption | (intros; omega)
                      · first | omega | assumption | (intros; omega)
                      · first | omega | assumption | (intros; omega)
                      · first | omega | assumption | (intros; omega)
                      · first | omega | assumption | (intros; omega)
                      · first | omega | assumption | (intros; omega)
                      · rw [h5, show t = -1 by omega]
                        unfold zkr
                        by_cases ho : od = 0
                        · rw [if_pos ho, if_pos (by omega)]; rfl
                        · rw [if_neg ho, if_neg ho, show zdI s (-1) = 0 by unfold zdI; omega]
                          by_cases h9 : s = 0
                          · rw [if_pos (by omega), h9]; rfl
                          · rw [if_neg (by omega), show zdI (s + -1) 24 = 5 by unfold zdI; omega, show 5 * (s + -1) + 5 = 5 * s + 0 by omega]
                      · omega
                    · skip
                      refine wp_iload dd_X11_term_79 rfl ?_
                      refine wp_iconst dd_X11_term_81 (zr_lit rfl) ?_
                      refine wp_idivP dd_X11_term_82 (by omega) (by omega) ?_
                      refine wp_istore (ls2 := [some (zR 67), some (zI q), some (zI od), some (zI k0), some (zI 0), some (zI n), some (zI s), some (zI t), some (zI (t / 5)), none]) dd_X11_term_83 rfl (by decide) rfl ?_
                      refine wp_iload dd_X11_term_85 rfl ?_
                      refine wp_iconst dd_X11_term_87 (zr_lit rfl) ?_
                      refine wp_iremP dd_X11_term_88 (by omega) (by omega) ?_
                      refine wp_istore (ls2 := [some (zR 67), some (zI q), some (zI od), some (zI k0), some (zI 0), some (zI n), some (zI s), some (zI t), some (zI (t / 5)), some (zI (t % 5))]) dd_X11_term_89 rfl (by decide) rfl ?_
                      refine wp_iload_n dd_X11_term_91 rfl ?_
                      refine wp_iconst dd_X11_term_92 (zr_lit rfl) ?_
                      refine wp_icmp_ne (tgt := 106) dd_X11_term_93 (by decide) (fun c93_16 => ?_) (fun c93_16 => ?_)
                      · skip
                        refine wp_aload_n dd_X11_term_106 rfl ?_
                        refine wp_iload_n dd_X11_term_107 rfl ?_
                        refine wp_iload dd_X11_term_108 rfl ?_
                        refine wp_iload dd_X11_term_110 rfl ?_
                        refine wp_callV (M' := mm_X11_isTerm) (As := [zI q, zI (t / 5), zI (t % 5)]) (rest := []) dd_X11_term_112 lk_X11_111 mV_X11_isTerm kk_67 (zlt rfl) ⟨_, _, rfl⟩ rfl (by decide) (by decide) (Nat.le_of_ble_eq_true rfl) rfl (sp_X11_isTerm  q (t / 5) (t % 5) (by first | assumption | omega) hT (by first | assumption | omega) (by first | assumption | omega) ?_)
                        show zw_Wp l mm_X11_term (zS L) 115 [some (zR 67), some (zI q), some (zI od), some (zI k0), some (zI 0), some (zI n), some (zI s), some (zI t), some (zI (t / 5)), some (zI (t % 5))] [zI (if zcf (mem 70 q) (mem 71 q) (mem 67 1) (ztd mem q) (t / 5) (t % 5) = 0 then 0 else 1)] mem 0 0 Q
                        refine wp_if_ne (tgt := 121) dd_X11_term_115 (by decide) (fun c115_17 => ?_) (fun c115_17 => ?_)
                        · skip
                          refine wp_iload dd_X11_term_121 rfl ?_
                          refine wp_iload_n dd_X11_term_123 rfl ?_
                          refine wp_icmp_ne (tgt := 136) dd_X11_term_124 (by decide) (fun c124_18 => ?_) (fun c124_18 => ?_)
                          · skip
                            refine wp_iincC (ls2 := [some (zR 67), some (zI q), some (zI od), some (zI k0), some (zI 0), some (zI (n + 1)), some (zI s), some (zI t), some (zI (t / 5)), some (zI (t % 5))]) dd_X11_term_136 rfl rfl (by decide) (by omega) rfl ?_
                            refine wp_iincC (ls2 := [some (zR 67), some (zI q), some (zI od), some (zI k0), some (zI 0), some (zI (n + 1)), some (zI s), some (zI (t + (-1))), some (zI (t / 5)), some (zI (t % 5))]) dd_X11_term_139 rfl rfl (by decide) (by omega) rfl ?_
                            refine wp_goto (tgt := 74) dd_X11_term_142 (by decide) ?_
                            refine wp_ls (zw_sub_of (a := [some (zR 67), some (zI q), some (zI od), some (zI k0), some (zI 0), some (zI (n + 1)), some (zI s), some (zI (t + (-1))), none, none]) (And.intro rfl (And.intro rfl (And.intro rfl (And.intro rfl (And.intro rfl (And.intro rfl (And.intro rfl (And.intro rfl (trivial)))))))))) ?_
                            refine ih74 (n + 1) (t + (-1)) ?_ ?_ ?_ ?_ ?_ ?_ ?_
                            · first | omega | assumption | (intros; omega)
                            · first | omega | assumption | (intros; omega)
                            · first | omega | assumption | (intros; omega)
                            · first | omega | assumption | (intros; omega)
                            · first | omega | assumption | (intros; omega)
                            · have hct : zcf (mem 70 q) (mem 71 q) (mem 67 1) (ztd mem q) (t / 5) (t % 5) = zco mem q t := rfl
                              rw [h5, zkr_step (by omega) (by omega)]
                              first
                              | (rw [if_pos ⟨by omega, by omega⟩, if_neg (by omega), show k0 - n - 1 = k0 - (n + 1) by omega]; rfl)
                              | (rw [if_neg (fun q => by have q1 := q.1; omega)]; rfl)
                              | (rw [if_neg (fun q => by have q1 := q.2; omega)]; rfl)
                            · omega
                          · skip
                            refine wp_bipush dd_X11_term_127 (by decide) ?_
                            refine wp_iload dd_X11_term_129 rfl ?_
                            refine wp_imulC dd_X11_term_131 (by omega) ?_
                            refine wp_iload dd_X11_term_132 rfl ?_
                            refine wp_iaddC dd_X11_term_134 (by omega) ?_
                            refine wp_ireturn (st := []) dd_X11_term_135 rfl ?_
                            have hct : zcf (mem 70 q) (mem 71 q) (mem 67 1) (ztd mem q) (t / 5) (t % 5) = zco mem q t := rfl
                            refine k _ _ (Or.inr ⟨hz, ?_, rfl⟩)
                            rw [h5, zkr_step (by omega) (by omega), if_pos ⟨by omega, by omega⟩, if_pos (by omega)]
                        · skip
                          refine wp_goto (tgt := 139) dd_X11_term_118 (by decide) ?_
                          refine wp_iincC (ls2 := [some (zR 67), some (zI q), some (zI od), some (zI k0), some (zI 0), some (zI n), some (zI s), some (zI (t + (-1))), some (zI (t / 5)), some (zI (t % 5))]) dd_X11_term_139 rfl rfl (by decide) (by omega) rfl ?_
                          refine wp_goto (tgt := 74) dd_X11_term_142 (by decide) ?_
                          refine wp_ls (zw_sub_of (a := [some (zR 67), some (zI q), some (zI od), some (zI k0), some (zI 0), some (zI n), some (zI s), some (zI (t + (-1))), none, none]) (And.intro rfl (And.intro rfl (And.intro rfl (And.intro rfl (And.intro rfl (And.intro rfl (And.intro rfl (And.intro rfl (trivial)))))))))) ?_
                          refine ih74 n (t + (-1)) ?_ ?_ ?_ ?_ ?_ ?_ ?_
                          · first | omega | assumption | (intros; omega)
                          · first | omega | assumption | (intros; omega)
                          · first | omega | assumption | (intros; omega)
                          · first | omega | assumption | (intros; omega)
                          · first | omega | assumption | (intros; omega)
                          · have hct : zcf (mem 70 q) (mem 71 q) (mem 67 1) (ztd mem q) (t / 5) (t % 5) = zco mem q t := rfl
                            rw [h5, zkr_step (by omega) (by omega)]
                            first
                            | (rw [if_pos ⟨by omega, by omega⟩, if_neg (by omega), show k0 - n - 1 = k0 - (n + 1) by omega]; rfl)
                            | (rw [if_neg (fun q => by have q1 := q.1; omega)]; rfl)
                            | (rw [if_neg (fun q => by have q1 := q.2; omega)]; rfl)
                          · omega
                      · skip
                        refine wp_iload dd_X11_term_96 rfl ?_
                        refine wp_iload dd_X11_term_98 rfl ?_
                        refine wp_iaddC dd_X11_term_100 (by omega) ?_
                        refine wp_iload dd_X11_term_101 rfl ?_
                        refine wp_icmp_ne (tgt := 139) dd_X11_term_103 (by decide) (fun c103_19 => ?_) (fun c103_19 => ?_)
                        · skip
                          refine wp_iincC (ls2 := [some (zR 67), some (zI q), some (zI od), some (zI k0), some (zI 0), some (zI n), some (zI s), some (zI (t + (-1))), some (zI (t / 5)), some (zI (t % 5))]) dd_X11_term_139 rfl rfl (by decide) (by omega) rfl ?_
                          refine wp_goto (tgt := 74) dd_X11_term_142 (by decide) ?_
                          refine wp_ls (zw_sub_of (a := [some (zR 67), some (zI q), some (zI od), some (zI k0), some (zI 0), some (zI n), some (zI s), some (zI (t + (-1))), none, none]) (And.intro rfl (And.intro rfl (And.intro rfl (And.intro rfl (And.intro rfl (And.intro rfl (And.intro rfl (And.intro rfl (trivial)))))))))) ?_
                          refine ih74 n (t + (-1)) ?_ ?_ ?_ ?_ ?_ ?_ ?_
                          · first | omega | assumption | (intros; omega)
                          · first | omega | assumption | (intros; omega)
                          · first | omega | assumption | (intros; omega)
                          · first | omega | assumption | (intros; omega)
                          · first | omega | assumption | (intros; omega)
                          · have hct : zcf (mem 70 q) (mem 71 q) (mem 67 1) (ztd mem q) (t / 5) (t % 5) = zco mem q t := rfl
                            rw [h5, zkr_step (by omega) (by omega)]
                            first
                            | (rw [if_pos ⟨by omega, by omega⟩, if_neg (by omega), show k0 - n - 1 = k0 - (n + 1) by omega]; rfl)
                            | (rw [if_neg (fun q => by have q1 := q.1; omega)]; rfl)
                            | (rw [if_neg (fun q => by have q1 := q.2; omega)]; rfl)
                          · omega
                        · skip
                          refine wp_aload_n dd_X11_term_106 rfl ?_
                          refine wp_iload_n dd_X11_term_107 rfl ?_
                          refine wp_iload dd_X11_term_108 rfl ?_
                          refine wp_iload dd_X11_term_110 rfl ?_
                          refine wp_callV (M' := mm_X11_isTerm) (As := [zI q, zI (t / 5), zI (t % 5)]) (rest := []) dd_X11_term_112 lk_X11_111 mV_X11_isTerm kk_67 (zlt rfl) ⟨_, _, rfl⟩ rfl (by decide) (by decide) (Nat.le_of_ble_eq_true rfl) rfl (sp_X11_isTerm  q (t / 5) (t % 5) (by first | assumption | omega) hT (by first | assumption | omega) (by first | assumption | omega) ?_)
                          show zw_Wp l mm_X11_term (zS L) 115 [some (zR 67), some (zI q), some (zI od), some (zI k0), some (zI 0), some (zI n), some (zI s), some (zI t), some (zI (t / 5)), some (zI (t % 5))] [zI (if zcf (mem 70 q) (mem 71 q) (mem 67 1) (ztd mem q) (t / 5) (t % 5) = 0 then 0 else 1)] mem 0 0 Q
                          refine wp_if_ne (tgt := 121) dd_X11_term_115 (by decide) (fun c115_20 => ?_) (fun c115_20 => ?_)
                          · skip
                            refine wp_iload dd_X11_term_121 rfl ?_
                            refine wp_iload_n dd_X11_term_123 rfl ?_
                            refine wp_icmp_ne (tgt := 136) dd_X11_term_124 (by decide) (fun c124_21 => ?_) (fun c124_21 => ?_)
                            · skip
                              refine wp_iincC (ls2 := [some (zR 67), some (zI q), some (zI od), some (zI k0), some (zI 0), some (zI (n + 1)), some (zI s), some (zI t), some (zI (t / 5)), some (zI (t % 5))]) dd_X11_term_136 rfl rfl (by decide) (by omega) rfl ?_
                              refine wp_iincC (ls2 := [some (zR 67), some (zI q), some (zI od), some (zI k0), some (zI 0), some (zI (n + 1)), some (zI s), some (zI (t + (-1))), some (zI (t / 5)), some (zI (t % 5))]) dd_X11_term_139 rfl rfl (by decide) (by omega) rfl ?_
                              refine wp_goto (tgt := 74) dd_X11_term_142 (by decide) ?_
                              refine wp_ls (zw_sub_of (a := [some (zR 67), some (zI q), some (zI od), some (zI k0), some (zI 0), some (zI (n + 1)), some (zI s), some (zI (t + (-1))), none, none]) (And.intro rfl (And.intro rfl (And.intro rfl (And.intro rfl (And.intro rfl (And.intro rfl (And.intro rfl (And.intro rfl (trivial)))))))))) ?_
                              refine ih74 (n + 1) (t + (-1)) ?_ ?_ ?_ ?_ ?_ ?_ ?_
                              · first | omega | assumption | (intros; omega)
                              · first | omega | assumption | (intros; omega)
                              · first | omega | assumption | (intros; omega)
                              · first | omega | assumption | (intros; omega)
                              · first | omega | assumption | (intros; omega)
                              · have hct : zcf (mem 70 q) (mem 71 q) (mem 67 1) (ztd mem q) (t / 5) (t % 5) = zco mem q t := rfl
                                rw [h5, zkr_step (by omega) (by omega)]
                                first
                                | (rw [if_pos ⟨by omega, by omega⟩, if_neg (by omega), show k0 - n - 1 = k0 - (n + 1) by omega]; rfl)
                                | (rw [if_neg (fun q => by have q1 := q.1; omega)]; rfl)
                                | (rw [if_neg (fun q => by have q1 := q.2; omega)]; rfl)
                              · omega
                            · skip
                              refine wp_bipush dd_X11_term_127 (by decide) ?_
                              refine wp_iload dd_X11_term_129 rfl ?_
                              refine wp_imulC dd_X11_term_131 (by omega) ?_
                              refine wp_iload dd_X11_term_132 rfl ?_
                              refine wp_iaddC dd_X11_term_134 (by omega) ?_
                              refine wp_ireturn (st := []) dd_X11_term_135 rfl ?_
                              have hct : zcf (mem 70 q) (mem 71 q) (mem 67 1) (ztd mem q) (t / 5) (t % 5) = zco mem q t := rfl
                              refine k _ _ (Or.inr ⟨hz, ?_, rfl⟩)
                              rw [h5, zkr_step (by omega) (by omega), if_pos ⟨by omega, by omega⟩, if_pos (by omega)]
                          · skip
                            refine wp_goto (tgt := 139) dd_X11_term_118 (by decide) ?_
                            refine wp_iincC (ls2 := [some (zR 67), some (zI q), some (zI od), some (zI k0), some (zI 0), some (zI n), some (zI s), some (zI (t + (-1))), some (zI (t / 5)), some (zI (t % 5))]) dd_X11_term_139 rfl rfl (by decide) (by omega) rfl ?_
                            refine wp_goto (tgt := 74) dd_X11_term_142 (by decide) ?_
                            refine wp_ls (zw_sub_of (a := [some (zR 67), some (zI q), some (zI od), some (zI k0), some (zI 0), some (zI n), some (zI s), some (zI (t + (-1))), none, none]) (And.intro rfl (And.intro rfl (And.intro rfl (And.intro rfl (And.intro rfl (And.intro rfl (And.intro rfl (And.intro rfl (trivial)))))))))) ?_
                            refine ih74 n (t + (-1)) ?_ ?_ ?_ ?_ ?_ ?_ ?_
                            · first | omega | assumption | (intros; omega)
                            · first | omega | assumption | (intros; omega)
                            · first | omega | assumption | (intros; omega)
                            · first | omega | assumption | (intros; omega)
                            · first | omega | assumption | (intros; omega)
                            · have hct : zcf (mem 70 q) (mem 71 q) (mem 67 1) (ztd mem q) (t / 5) (t % 5) = zco mem q t := rfl
                              rw [h5, zkr_step (by omega) (by omega)]
                              first
                              | (rw [if_pos ⟨by omega, by omega⟩, if_neg (by omega), show k0 - n - 1 = k0 - (n + 1) by omega]; rfl)
                              | (rw [if_neg (fun q => by have q1 := q.1; omega)]; rfl)
                              | (rw [if_neg (fun q => by have q1 := q.2; omega)]; rfl)
                            · omega
                refine lp74 ((24 + 1 : Int)).toNat.succ n 24 ?_ ?_ ?_ ?_ ?_ ?_ ?_
                · first | omega | assumption | (intros; omega)
                · first | omega | assumption | (intros; omega)
                · first | omega | assumption | (intros; omega)
                · first | omega | assumption | (intros; omega)
                · first | omega | assumption | (intros; omega)
                · rw [h2, if_neg (by omega)]
                · omega
          refine lp65 ((0 + 1 : Int)).toNat.succ 0 0 ?_ ?_ ?_ ?_ ?_ ?_ ?_ ?_
          · first | omega | assumption | (intros; omega)
          · first | omega | assumption | (intros; omega)
          · first | omega | assumption | (intros; omega)
          · first | omega | assumption | (intros; omega)
          · first | omega | assumption | (intros; omega)
          · first | omega | assumption | (intros; omega)
          · rw [if_neg (by omega), Int.sub_zero]
            unfold zkt zkr
            first
            | (rw [if_pos (by omega), if_pos (by omega)]; rfl)
            | (rw [if_neg (by omega), if_neg (by omega)]; rfl)
          · omega
      · skip
        refine wp_bipush dd_X11_term_30 (by decide) ?_
        refine wp_goto (tgt := 36) dd_X11_term_32 (by decide) ?_
        refine wp_istore (ls2 := [some (zR 67), some (zI q), some (zI od), some (zI k0), some (zI (-4)), none, none, none, none, none]) dd_X11_term_36 rfl (by decide) rfl ?_
        refine wp_iload dd_X11_term_38 rfl ?_
        refine wp_if_eq (tgt := 50) dd_X11_term_40 (by decide) (fun c40_22 => absurd c40_22 (by decide)) (fun c40_22 => ?_)
        refine wp_aload_n dd_X11_term_43 rfl ?_
        refine wp_iload dd_X11_term_44 rfl ?_
        refine wp_callV (M' := mm_X11_no) (As := [zI (-4)]) (rest := []) dd_X11_term_46 lk_X11_120 mV_X11_no kk_67 (zlt rfl) ⟨_, _, rfl⟩ rfl (by decide) (by decide) (Nat.le_of_ble_eq_true rfl) rfl (sp_X11_no  (-4) (by first | assumption | omega) ?_)
        show zw_Wp l mm_X11_term (zS L) 49 [some (zR 67), some (zI q), some (zI od), some (zI k0), some (zI (-4)), none, none, none, none, none] [zI (-4)] (zu mem 68 (-(-4)) (zwr (mem 68 (-(-4)) + 1))) 0 0 Q
        refine wp_ireturn (st := []) dd_X11_term_49 rfl ?_
        have hw : zyK mem q od k0 = (-4) := by unfold zyK; repeat first | rw [if_pos (by omega)] | rw [if_neg (by omega)]
        exact k _ _ (Or.inl ⟨by rw [hw]; decide, hw.symm, by rw [hw]; rfl⟩)
    · skip
      refine wp_bipush dd_X11_term_21 (by decide) ?_
      refine wp_goto (tgt := 36) dd_X11_term_23 (by decide) ?_
      refine wp_istore (ls2 := [some (zR 67), some (zI q), some (zI od), some (zI k0), some (zI (-2)), none, none, none, none, none]) dd_X11_term_36 rfl (by decide) rfl ?_
      refine wp_iload dd_X11_term_38 rfl ?_
      refine wp_if_eq (tgt := 50) dd_X11_term_40 (by decide) (fun c40_23 => absurd c40_23 (by decide)) (fun c40_23 => ?_)
      refine wp_aload_n dd_X11_term_43 rfl ?_
      refine wp_iload dd_X11_term_44 rfl ?_
      refine wp_callV (M' := mm_X11_no) (As := [zI (-2)]) (rest := []) dd_X11_term_46 lk_X11_120 mV_X11_no kk_67 (zlt rfl) ⟨_, _, rfl⟩ rfl (by decide) (by decide) (Nat.le_of_ble_eq_true rfl) rfl (sp_X11_no  (-2) (by first | assumption | omega) ?_)
      show zw_Wp l mm_X11_term (zS L) 49 [some (zR 67), some (zI q), some (zI od), some (zI k0), some (zI (-2)), none, none, none, none, none] [zI (-2)] (zu mem 68 (-(-2)) (zwr (mem 68 (-(-2)) + 1))) 0 0 Q
      refine wp_ireturn (st := []) dd_X11_term_49 rfl ?_
      have hw : zyK mem q od k0 = (-2) := by unfold zyK; repeat first | rw [if_pos (by omega)] | rw [if_neg (by omega)]
      exact k _ _ (Or.inl ⟨by rw [hw]; decide, hw.symm, by rw [hw]; rfl⟩)
  · skip
    refine wp_iconst dd_X11_term_8 (zr_lit rfl) ?_
    refine wp_goto (tgt := 36) dd_X11_term_9 (by decide) ?_
    refine wp_istore (ls2 := [some (zR 67), some (zI q), some (zI od), some (zI k0), some (zI (-1)), none, none, none, none, none]) dd_X11_term_36 rfl (by decide) rfl ?_
    refine wp_iload dd_X11_term_38 rfl ?_
    refine wp_if_eq (tgt := 50) dd_X11_term_40 (by decide) (fun c40_24 => absurd c40_24 (by decide)) (fun c40_24 => ?_)
    refine wp_aload_n dd_X11_term_43 rfl ?_
    refine wp_iload dd_X11_term_44 rfl ?_
    refine wp_callV (M' := mm_X11_no) (As := [zI (-1)]) (rest := []) dd_X11_term_46 lk_X11_120 mV_X11_no kk_67 (zlt rfl) ⟨_, _, rfl⟩ rfl (by decide) (by decide) (Nat.le_of_ble_eq_true rfl) rfl (sp_X11_no  (-1) (by first | assumption | omega) ?_)
    show zw_Wp l mm_X11_term (zS L) 49 [some (zR 67), some (zI q), some (zI od), some (zI k0), some (zI (-1)), none, none, none, none, none] [zI (-1)] (zu mem 68 (-(-1)) (zwr (mem 68 (-(-1)) + 1))) 0 0 Q
    refine wp_ireturn (st := []) dd_X11_term_49 rfl ?_
    have hw : zyK mem q od k0 = (-1) := by unfold zyK; repeat first | rw [if_pos (by omega)] | rw [if_neg (by omega)]
    exact k _ _ (Or.inl ⟨by rw [hw]; decide, hw.symm, by rw [hw]; rfl⟩)

