set_option maxRecDepth 100000 in
set_option maxHeartbeats 4000000 in
theorem sp_X4_termByLetter {l : Launch} {L : Nat} {mem : zMem} {Q : zQ}  (o : Nat) (k0 : Int) (ho : zP o) (hk0 : 0 ≤ k0) (k : Q (some (zI (zk0 (mem (o + 2)) k0 25))) (zS L) mem) : zw_Ok l mm_X4_termByLetter [zR o, zI k0] (zS L) mem Q := by
  refine zw_okA (fun hA => ?_)
  have rg_k0 : -2147483648 ≤ k0 ∧ k0 < 2147483648 := hA.2.1
  refine zw_enter (by decide) (Nat.le_of_ble_eq_true rfl) rfl ?_
  show zw_Wp l mm_X4_termByLetter (zS L) 0 [some (zR o), some (zI k0), none, none, none] [] mem 0 0 Q
  refine wp_iconst dd_X4_termByLetter_0 (zr_lit rfl) ?_
  refine wp_istore_n (ls2 := [some (zR o), some (zI k0), some (zI 0), none, none]) dd_X4_termByLetter_1 rfl (by decide) rfl ?_
  refine wp_iconst dd_X4_termByLetter_2 (zr_lit rfl) ?_
  refine wp_istore_n (ls2 := [some (zR o), some (zI k0), some (zI 0), some (zI 4), none]) dd_X4_termByLetter_3 rfl (by decide) rfl ?_
  have lp4 : ∀ (nf : Nat) (a : Int) (i : Int), (-1 ≤ i) → (i ≤ 4) → (0 ≤ a ∧ a ≤ k0 ∧ a ≤ 20 - 5 * i) → (zk0 (mem (o + 2)) (k0 - a) (5 * i + 5).toNat = zk0 (mem (o + 2)) k0 25) → (i + 1) < (nf : Int) → zw_Wp l mm_X4_termByLetter (zS L) 4 [some (zR o), some (zI k0), some (zI a), some (zI i), none] [] mem 0 0 Q := by
    intro nf
    induction nf with
    | zero =>
      intro a i h0 h1 hA hZ hmu
      exfalso; omega
    | succ nf ih4 =>
      intro a i h0 h1 hA hZ hmu
      refine wp_iload_n dd_X4_termByLetter_4 rfl ?_
      refine wp_if_lt (tgt := 57) dd_X4_termByLetter_5 (by decide) (fun c5_1 => ?_) (fun c5_1 => ?_)
      · skip
        refine wp_bipush dd_X4_termByLetter_57 (by decide) ?_
        refine wp_ireturn (st := []) dd_X4_termByLetter_59 rfl ?_
        refine zq_I ?_ ?_ k
        · rw [show (5 * i + 5).toNat = 0 by omega] at hZ
          rw [← hZ]; rfl
        · rfl
      · skip
        refine wp_iconst dd_X4_termByLetter_8 (zr_lit rfl) ?_
        refine wp_istore (ls2 := [some (zR o), some (zI k0), some (zI a), some (zI i), some (zI 4)]) dd_X4_termByLetter_9 rfl (by decide) rfl ?_
        have lp11 : ∀ (nf : Nat) (a : Int) (j : Int), (-1 ≤ j) → (j ≤ 4) → (0 ≤ a ∧ a ≤ k0 ∧ a ≤ 24 - 5 * i - j) → (zk0 (mem (o + 2)) (k0 - a) (5 * i + j + 1).toNat = zk0 (mem (o + 2)) k0 25) → (j + 1) < (nf : Int) → zw_Wp l mm_X4_termByLetter (zS L) 11 [some (zR o), some (zI k0), some (zI a), some (zI i), some (zI j)] [] mem 0 0 Q := by
          intro nf
          induction nf with
          | zero =>
            intro a j h2 h3 hA hZ hmu
            exfalso; omega
          | succ nf ih11 =>
            intro a j h2 h3 hA hZ hmu
            refine wp_iload dd_X4_termByLetter_11 rfl ?_
            refine wp_if_lt (tgt := 51) dd_X4_termByLetter_13 (by decide) (fun c13_2 => ?_) (fun c13_2 => ?_)
            · skip
              refine wp_iincC (ls2 := [some (zR o), some (zI k0), some (zI a), some (zI (i + (-1))), some (zI j)]) dd_X4_termByLetter_51 rfl rfl (by decide) (by omega) rfl ?_
              refine wp_goto (tgt := 4) dd_X4_termByLetter_54 (by decide) ?_
              refine wp_ls (zw_sub_of (a := [some (zR o), some (zI k0), some (zI a), some (zI (i + (-1))), none]) (And.intro rfl (And.intro rfl (And.intro rfl (And.intro rfl (trivial)))))) ?_
              refine ih4 a (i + (-1)) ?_ ?_ ?_ ?_ ?_
              · first | omega | assumption | (intros; omega)
              · first | omega | assumption | (intros; omega)
              · first | omega | assumption | (intros; omega)
              · rw [show 5 * (i + -1) + 5 = 5 * i + j + 1 by omega]; exact hZ
              · omega
            · skip
              refine wp_aload_n dd_X4_termByLetter_16 rfl ?_
              refine wp_iload_n dd_X4_termByLetter_17 rfl ?_
              refine wp_iload dd_X4_termByLetter_18 rfl ?_
              refine wp_callV (M' := mm_X4_hasTerm) (As := [zI i, zI j]) (rest := []) dd_X4_termByLetter_20 lk_X4_66 mV_X4_hasTerm ho.k ho.i ⟨_, _, rfl⟩ rfl (by decide) (by decide) (Nat.le_of_ble_eq_true rfl) rfl (sp_X4_hasTerm  o i j (by first | assumption | omega) (by first | assumption | omega) (by first | assumption | omega) ?_)
              show zw_Wp l mm_X4_termByLetter (zS L) 23 [some (zR o), some (zI k0), some (zI a), some (zI i), some (zI j)] [zI (if mem (o + 2) (5 * i + j) = 0 then 0 else 1)] mem 0 0 Q
              refine wp_if_ne (tgt := 29) dd_X4_termByLetter_23 (by decide) (fun c23_3 => ?_) (fun c23_3 => ?_)
              · skip
                have hz : mem (o + 2) (5 * i + j) ≠ 0 := fun q => c23_3 (by rw [if_pos q])
                have e9 : (5 * i + j + 1).toNat = (5 * i + j).toNat + 1 := by omega
                have e8 : (((5 * i + j).toNat : Nat) : Int) = 5 * i + j := by omega
                have e7 := hZ
                rw [e9, zk0, e8] at e7
                refine wp_iload_n dd_X4_termByLetter_29 rfl ?_
                refine wp_iload_n dd_X4_termByLetter_30 rfl ?_
                refine wp_icmp_ne (tgt := 42) dd_X4_termByLetter_31 (by decide) (fun c31_4 => ?_) (fun c31_4 => ?_)
                · skip
                  refine wp_iincC (ls2 := [some (zR o), some (zI k0), some (zI (a + 1)), some (zI i), some (zI j)]) dd_X4_termByLetter_42 rfl rfl (by decide) (by omega) rfl ?_
                  refine wp_iincC (ls2 := [some (zR o), some (zI k0), some (zI (a + 1)), some (zI i), some (zI (j + (-1)))]) dd_X4_termByLetter_45 rfl rfl (by decide) (by omega) rfl ?_
                  refine wp_goto (tgt := 11) dd_X4_termByLetter_48 (by decide) ?_
                  refine ih11 (a + 1) (j + (-1)) ?_ ?_ ?_ ?_ ?_
                  · first | omega | assumption | (intros; omega)
                  · first | omega | assumption | (intros; omega)
                  · first | omega | assumption | (intros; omega)
                  · rw [show 5 * i + (j + -1) + 1 = 5 * i + j by omega]
                    first
                    | (rw [if_pos hz] at e7; exact e7)
                    | (rw [if_neg hz, if_neg (by omega)] at e7; rw [show k0 - (a + 1) = k0 - a - 1 by omega]; exact e7)
                  · omega
                · skip
                  refine wp_bipush dd_X4_termByLetter_34 (by decide) ?_
                  refine wp_iload_n dd_X4_termByLetter_36 rfl ?_
                  refine wp_imulC dd_X4_termByLetter_37 (by omega) ?_
                  refine wp_iload dd_X4_termByLetter_38 rfl ?_
                  refine wp_iaddC dd_X4_termByLetter_40 (by omega) ?_
                  refine wp_ireturn (st := []) dd_X4_termByLetter_41 rfl ?_
                  refine zq_I ?_ ?_ k
                  · rw [if_neg hz, if_pos (by omega)] at e7
                    rw [← e7]; omega
                  · rfl
              · skip
                have hz : mem (o + 2) (5 * i + j) = 0 := by
                  by_cases q : mem (o + 2) (5 * i + j) = 0
                  · exact q
                  · rw [if_neg q] at c23_3; omega
                have e9 : (5 * i + j + 1).toNat = (5 * i + j).toNat + 1 := by omega
                have e8 : (((5 * i + j).toNat : Nat) : Int) = 5 * i + j := by omega
                have e7 := hZ
                rw [e9, zk0, e8] at e7
                refine wp_goto (tgt := 45) dd_X4_termByLetter_26 (by decide) ?_
                refine wp_iincC (ls2 := [some (zR o), some (zI k0), some (zI a), some (zI i), some (zI (j + (-1)))]) dd_X4_termByLetter_45 rfl rfl (by decide) (by omega) rfl ?_
                refine wp_goto (tgt := 11) dd_X4_termByLetter_48 (by decide) ?_
                refine ih11 a (j + (-1)) ?_ ?_ ?_ ?_ ?_
                · first | omega | assumption | (intros; omega)
                · first | omega | assumption | (intros; omega)
                · first | omega | assumption | (intros; omega)
                · rw [show 5 * i + (j + -1) + 1 = 5 * i + j by omega]
                  first
                  | (rw [if_pos hz] at e7; exact e7)
                  | (rw [if_neg hz, if_neg (by omega)] at e7; rw [show k0 - (a + 1) = k0 - a - 1 by omega]; exact e7)
                · omega
        refine lp11 ((4 + 1 : Int)).toNat.succ a 4 ?_ ?_ ?_ ?_ ?_
        · first | omega | assumption | (intros; omega)
        · first | omega | assumption | (intros; omega)
        · first | omega | assumption | (intros; omega)
        · rw [show 5 * i + 4 + 1 = 5 * i + 5 by omega]; exact hZ
        · omega
  refine lp4 ((4 + 1 : Int)).toNat.succ 0 4 ?_ ?_ ?_ ?_ ?_
  · first | omega | assumption | (intros; omega)
  · first | omega | assumption | (intros; omega)
  · first | omega | assumption | (intros; omega)
  · rw [Int.sub_zero]; rfl
  · omega

set_option maxRecDepth 100000 in
set_option maxHeartbeats 4000000 in
theorem sp_X4_termByWhole {l : Launch} {L : Nat} {mem : zMem} {Q : zQ}  (o : Nat) (k0 : Int) (ho : zP o) (hk0 : 0 ≤ k0) (k : Q (some (zI (zk1 (mem (o + 2)) k0 45))) (zS L) mem) : zw_Ok l mm_X4_termByWhole [zR o, zI k0] (zS L) mem Q := by
  refine zw_okA (fun hA => ?_)
  have rg_k0 : -2147483648 ≤ k0 ∧ k0 < 2147483648 := hA.2.1
  refine zw_enter (by decide) (Nat.le_of_ble_eq_true rfl) rfl ?_
  show zw_Wp l mm_X4_termByWhole (zS L) 0 [some (zR o), some (zI k0), none, none, none] [] mem 0 0 Q
  refine wp_iconst dd_X4_termByWhole_0 (zr_lit rfl) ?_
  refine wp_istore_n (ls2 := [some (zR o), some (zI k0), some (zI 0), none, none]) dd_X4_termByWhole_1 rfl (by decide) rfl ?_
  refine wp_bipush dd_X4_termByWhole_2 (by decide) ?_
  refine wp_istore_n (ls2 := [some (zR o), some (zI k0), some (zI 0), some (zI 8), none]) dd_X4_termByWhole_4 rfl (by decide) rfl ?_
  have lp5 : ∀ (nf : Nat) (a : Int) (s : Int), (-1 ≤ s) → (s ≤ 8) → (0 ≤ a ∧ a ≤ k0 ∧ a ≤ 40 - 5 * s) → (zk1 (mem (o + 2)) (k0 - a) (5 * s + 5).toNat = zk1 (mem (o + 2)) k0 45) → (s + 1) < (nf : Int) → zw_Wp l mm_X4_termByWhole (zS L) 5 [some (zR o), some (zI k0), some (zI a), some (zI s), none] [] mem 0 0 Q := by
    intro nf
    induction nf with
    | zero =>
      intro a s h0 h1 hA hZ hmu
      exfalso; omega
    | succ nf ih5 =>
      intro a s h0 h1 hA hZ hmu
      refine wp_iload_n dd_X4_termByWhole_5 rfl ?_
      refine wp_if_lt (tgt := 76) dd_X4_termByWhole_6 (by decide) (fun c6_1 => ?_) (fun c6_1 => ?_)
      · skip
        refine wp_bipush dd_X4_termByWhole_76 (by decide) ?_
        refine wp_ireturn (st := []) dd_X4_termByWhole_78 rfl ?_
        refine zq_I ?_ ?_ k
        · rw [show (5 * s + 5).toNat = 0 by omega] at hZ
          rw [← hZ]; rfl
        · rfl
      · skip
        refine wp_iconst dd_X4_termByWhole_9 (zr_lit rfl) ?_
        refine wp_iload_n dd_X4_termByWhole_10 rfl ?_
        refine wp_callS (M' := mm_J9_min_7cf53) (As := [zI 4, zI s]) (rest := []) dd_X4_termByWhole_11 lk_X4_73 mS_J9_min_7cf53 rfl (by decide) (by decide) (Nat.le_of_ble_eq_true rfl) rfl (sp_J9_min_7cf53  4 s  ?_)
        show zw_Wp l mm_X4_termByWhole (zS L) 14 [some (zR o), some (zI k0), some (zI a), some (zI s), none] [zI (min 4 s)] mem 0 0 Q
        refine wp_istore (ls2 := [some (zR o), some (zI k0), some (zI a), some (zI s), some (zI (min 4 s))]) dd_X4_termByWhole_14 rfl (by decide) rfl ?_
        have lp16 : ∀ (nf : Nat) (a : Int) (i : Int), (-1 ≤ i) → (i ≤ 4 ∧ i ≤ s) → (0 ≤ a ∧ a ≤ k0 ∧ a ≤ 44 - 5 * s - i) → (zk1 (mem (o + 2)) (k0 - a) (5 * s + i + 1).toNat = zk1 (mem (o + 2)) k0 45) → (i + 1) < (nf : Int) → zw_Wp l mm_X4_termByWhole (zS L) 16 [some (zR o), some (zI k0), some (zI a), some (zI s), some (zI i)] [] mem 0 0 Q := by
          intro nf
          induction nf with
          | zero =>
            intro a i h2 h3 hA hZ hmu
            exfalso; omega
          | succ nf ih16 =>
            intro a i h2 h3 hA hZ hmu
            refine wp_iload dd_X4_termByWhole_16 rfl ?_
            refine wp_if_lt (tgt := 70) dd_X4_termByWhole_18 (by decide) (fun c18_2 => ?_) (fun c18_2 => ?_)
            · skip
              refine wp_iincC (ls2 := [some (zR o), some (zI k0), some (zI a), some (zI (s + (-1))), some (zI i)]) dd_X4_termByWhole_70 rfl rfl (by decide) (by omega) rfl ?_
              refine wp_goto (tgt := 5) dd_X4_termByWhole_73 (by decide) ?_
              refine wp_ls (zw_sub_of (a := [some (zR o), some (zI k0), some (zI a), some (zI (s + (-1))), none]) (And.intro rfl (And.intro rfl (And.intro rfl (And.intro rfl (trivial)))))) ?_
              refine ih5 a (s + (-1)) ?_ ?_ ?_ ?_ ?_
              · first | omega | assumption | (intros; omega)
              · first | omega | assumption | (intros; omega)
              · first | omega | assumption | (intros; omega)
              · rw [show 5 * (s + -1) + 5 = 5 * s by omega]
                first
                | (rw [show (5 * s + i + 1).toNat = (5 * s).toNat by omega] at hZ; exact hZ)
                | (have e1 := zk1_lo (c := mem (o + 2)) (k := k0 - a) (s := s.toNat) (i + 1).toNat (by omega) (by omega)
                   rw [show (5 * s + i + 1).toNat = 5 * s.toNat + (i + 1).toNat by omega, e1] at hZ
                   rw [show (5 * s).toNat = 5 * s.toNat by omega]; exact hZ)
              · omega
            · skip
              refine wp_iload_n dd_X4_termByWhole_21 rfl ?_
              refine wp_iload dd_X4_termByWhole_22 rfl ?_
              refine wp_isubC dd_X4_termByWhole_24 (by omega) ?_
              refine wp_iconst dd_X4_termByWhole_25 (zr_lit rfl) ?_
              refine wp_icmp_gt (tgt := 70) dd_X4_termByWhole_26 (by decide) (fun c26_3 => ?_) (fun c26_3 => ?_)
              · skip
                refine wp_iincC (ls2 := [some (zR o), some (zI k0), some (zI a), some (zI (s + (-1))), some (zI i)]) dd_X4_termByWhole_70 rfl rfl (by decide) (by omega) rfl ?_
                refine wp_goto (tgt := 5) dd_X4_termByWhole_73 (by decide) ?_
                refine wp_ls (zw_sub_of (a := [some (zR o), some (zI k0), some (zI a), some (zI (s + (-1))), none]) (And.intro rfl (And.intro rfl (And.intro rfl (And.intro rfl (trivial)))))) ?_
                refine ih5 a (s + (-1)) ?_ ?_ ?_ ?_ ?_
                · first | omega | assumption | (intros; omega)
                · first | omega | assumption | (intros; omega)
                · first | omega | assumption | (intros; omega)
                · rw [show 5 * (s + -1) + 5 = 5 * s by omega]
                  first
                  | (rw [show (5 * s + i + 1).toNat = (5 * s).toNat by omega] at hZ; exact hZ)
                  | (have e1 := zk1_lo (c := mem (o + 2)) (k := k0 - a) (s := s.toNat) (i + 1).toNat (by omega) (by omega)
                     rw [show (5 * s + i + 1).toNat = 5 * s.toNat + (i + 1).toNat by omega, e1] at hZ
                     rw [show (5 * s).toNat = 5 * s.toNat by omega]; exact hZ)
                · omega
              · skip
                refine wp_aload_n dd_X4_termByWhole_29 rfl ?_
                refine wp_iload dd_X4_termByWhole_30 rfl ?_
                refine wp_iload_n dd_X4_termByWhole_32 rfl ?_
                refine wp_iload dd_X4_termByWhole_33 rfl ?_
                refine wp_isubC dd_X4_termByWhole_35 (by omega) ?_
                refine wp_callV (M' := mm_X4_hasTerm) (As := [zI i, zI (s - i)]) (rest := []) dd_X4_termByWhole_36 lk_X4_66 mV_X4_hasTerm ho.k ho.i ⟨_, _, rfl⟩ rfl (by decide) (by decide) (Nat.le_of_ble_eq_true rfl) rfl (sp_X4_hasTerm  o i (s - i) (by first | assumption | omega) (by first | assumption | omega) (by first | assumption | omega) ?_)
                show zw_Wp l mm_X4_termByWhole (zS L) 39 [some (zR o), some (zI k0), some (zI a), some (zI s), some (zI i)] [zI (if mem (o + 2) (5 * i + (s - i)) = 0 then 0 else 1)] mem 0 0 Q
                refine wp_if_ne (tgt := 45) dd_X4_termByWhole_39 (by decide) (fun c39_4 => ?_) (fun c39_4 => ?_)
                · skip
                  have hz : mem (o + 2) (5 * i + (s - i)) ≠ 0 := fun q => c39_4 (by rw [if_pos q])
                  have e9 : (5 * s + i + 1).toNat = (5 * s + i).toNat + 1 := by omega
                  have e8 : (((5 * s + i).toNat : Nat) : Int) = 5 * s + i := by omega
                  have e6 : (5 * s + i) / 5 = s := by omega
                  have e5 : (5 * s + i) % 5 = i := by omega
                  have e7 := hZ
                  rw [e9, zk1, e8, e6, e5] at e7
                  refine wp_iload_n dd_X4_termByWhole_45 rfl ?_
                  refine wp_iload_n dd_X4_termByWhole_46 rfl ?_
                  refine wp_icmp_ne (tgt := 61) dd_X4_termByWhole_47 (by decide) (fun c47_5 => ?_) (fun c47_5 => ?_)
                  · skip
                    refine wp_iincC (ls2 := [some (zR o), some (zI k0), some (zI (a + 1)), some (zI s), some (zI i)]) dd_X4_termByWhole_61 rfl rfl (by decide) (by omega) rfl ?_
                    refine wp_iincC (ls2 := [some (zR o), some (zI k0), some (zI (a + 1)), some (zI s), some (zI (i + (-1)))]) dd_X4_termByWhole_64 rfl rfl (by decide) (by omega) rfl ?_
                    refine wp_goto (tgt := 16) dd_X4_termByWhole_67 (by decide) ?_
                    refine ih16 (a + 1) (i + (-1)) ?_ ?_ ?_ ?_ ?_
                    · first | omega | assumption | (intros; omega)
                    · first | omega | assumption | (intros; omega)
                    · first | omega | assumption | (intros; omega)
                    · rw [show 5 * s + (i + -1) + 1 = 5 * s + i by omega]
                      first
                      | (rw [if_neg (fun q => q.2.2 hz)] at e7; exact e7)
                      | (rw [if_pos ⟨by omega, by omega, hz⟩, if_neg (by omega)] at e7; rw [show k0 - (a + 1) = k0 - a - 1 by omega]; exact e7)
                    · omega
                  · skip
                    refine wp_bipush dd_X4_termByWhole_50 (by decide) ?_
                    refine wp_iload dd_X4_termByWhole_52 rfl ?_
                    refine wp_imulC dd_X4_termByWhole_54 (by omega) ?_
                    refine wp_iload_n dd_X4_termByWhole_55 rfl ?_
                    refine wp_iaddC dd_X4_termByWhole_56 (by omega) ?_
                    refine wp_iload dd_X4_termByWhole_57 rfl ?_
                    refine wp_isubC dd_X4_termByWhole_59 (by omega) ?_
                    refine wp_ireturn (st := []) dd_X4_termByWhole_60 rfl ?_
                    refine zq_I ?_ ?_ k
                    · rw [if_pos ⟨by omega, by omega, hz⟩, if_pos (by omega)] at e7
                      rw [← e7]; omega
                    · rfl
                · skip
                  have hz : mem (o + 2) (5 * i + (s - i)) = 0 := by
                    by_cases q : mem (o + 2) (5 * i + (s - i)) = 0
                    · exact q
                    · rw [if_neg q] at c39_4; omega
                  have e9 : (5 * s + i + 1).toNat = (5 * s + i).toNat + 1 := by omega
                  have e8 : (((5 * s + i).toNat : Nat) : Int) = 5 * s + i := by omega
                  have e6 : (5 * s + i) / 5 = s := by omega
                  have e5 : (5 * s + i) % 5 = i := by omega
                  have e7 := hZ
                  rw [e9, zk1, e8, e6, e5] at e7
                  refine wp_goto (tgt := 64) dd_X4_termByWhole_42 (by decide) ?_
                  refine wp_iincC (ls2 := [some (zR o), some (zI k0), some (zI a), some (zI s), some (zI (i + (-1)))]) dd_X4_termByWhole_64 rfl rfl (by decide) (by omega) rfl ?_
                  refine wp_goto (tgt := 16) dd_X4_termByWhole_67 (by decide) ?_
                  refine ih16 a (i + (-1)) ?_ ?_ ?_ ?_ ?_
                  · first | omega | assumption | (intros; omega)
                  · first | omega | assumption | (intros; omega)
                  · first | omega | assumption | (intros; omega)
                  · rw [show 5 * s + (i + -1) + 1 = 5 * s + i by omega]
                    first
                    | (rw [if_neg (fun q => q.2.2 hz)] at e7; exact e7)
                    | (rw [if_pos ⟨by omega, by omega, hz⟩, if_neg (by omega)] at e7; rw [show k0 - (a + 1) = k0 - a - 1 by omega]; exact e7)
                  · omega
        refine lp16 (((min 4 s) + 1 : Int)).toNat.succ a (min 4 s) ?_ ?_ ?_ ?_ ?_
        · first | omega | assumption | (intros; omega)
        · first | omega | assumption | (intros; omega)
        · first | omega | assumption | (intros; omega)
        · by_cases hs : s < 4
          · have e1 := zk1_hi (c := mem (o + 2)) (k := k0 - a) (s := s.toNat) 4 (by omega) (by omega)
            rw [show (5 * s + 5).toNat = 5 * s.toNat + 4 + 1 by omega, e1] at hZ
            rw [show (5 * s + min 4 s + 1).toNat = 5 * s.toNat + s.toNat + 1 by omega]; exact hZ
          · rw [show (5 * s + min 4 s + 1).toNat = (5 * s + 5).toNat by omega]; exact hZ
        · omega
  refine lp5 ((8 + 1 : Int)).toNat.succ 0 8 ?_ ?_ ?_ ?_ ?_
  · first | omega | assumption | (intros; omega)
  · first | omega | assumption | (intros; omega)
  · first | omega | assumption | (intros; omega)
  · rw [Int.sub_zero]; rfl
  · omega

set_option maxRecDepth 100000 in
set_option maxHeartbeats 4000000 in
theorem sp_X4_reduceAt {l : Launch} {L : Nat} {mem : zMem} {Q : zQ}  (o : Nat) (le : Int) (v : Int) (p : Int) (r : Nat) (ho : zP o) (hkr : (zS L).2.1 r = (0, 5)) (hir : r < (zS L).1) (hro : r ≠ o + 2) (hp : 2 ≤ p ∧ p ≤ 31) (hv : 0 ≤ v ∧ v ≤ 31) (hc : ∀ t : Int, 0 ≤ t → t < 25 → 0 ≤ mem (o + 2) t ∧ mem (o + 2) t < p) (k : ∀ (mem2 : zMem), (∀ a : Int, 0 ≤ a → a < 5 → mem2 r a = zhr (fun b => zpt (mem (o + 2)) le a b) v p 5 5) → (∀ a : Nat, a ≠ r → mem2 a = mem a) → Q none (zS L) mem2) : zw_Ok l mm_X4_reduceAt [zR o, zI le, zI v, zI p, zR r] (zS L) mem Q := by
  refine zw_okA (fun hA => ?_)
  have rg_le : -2147483648 ≤ le ∧ le < 2147483648 := hA.2.1
  have rg_v : -2147483648 ≤ v ∧ v < 2147483648 := hA.2.2.1
  have rg_p : -2147483648 ≤ p ∧ p < 2147483648 := hA.2.2.2.1
  refine zw_enter (by decide) (Nat.le_of_ble_eq_true rfl) rfl ?_
  show zw_Wp l mm_X4_reduceAt (zS L) 0 [some (zR o), some (zI le), some (zI v), some (zI p), some (zR r), none, none, none] [] mem 0 0 Q
  refine wp_iconst dd_X4_reduceAt_0 (zr_lit rfl) ?_
  refine wp_istore (ls2 := [some (zR o), some (zI le), some (zI v), some (zI p), some (zR r), some (zI 0), none, none]) dd_X4_reduceAt_1 rfl (by decide) rfl ?_
  have lp3 : ∀ (nf : Nat) (a : Int) (mm : zMem), (0 ≤ a) → (a ≤ 5) → (∀ x : Int, 0 ≤ x → x < a → mm r x = zhr (fun b => zpt (mem (o + 2)) le x b) v p 5 5) → (∀ x : Nat, x ≠ r → mm x = mem x) → (5 - a) < (nf : Int) → zw_Wp l mm_X4_reduceAt (zS L) 3 [some (zR o), some (zI le), some (zI v), some (zI p), some (zR r), some (zI a), none, none] [] mm 0 0 Q := by
    intro nf
    induction nf with
    | zero =>
      intro a mm h0 h1 h2 h3 hmu
      exfalso; omega
    | succ nf ih3 =>
      intro a mm h0 h1 h2 h3 hmu
      have hmo : mm (o + 2) = mem (o + 2) := h3 _ (fun q => hro q.symm)
      refine wp_iload dd_X4_reduceAt_3 rfl ?_
      refine wp_iconst dd_X4_reduceAt_5 (zr_lit rfl) ?_
      refine wp_icmp_ge (tgt := 65) dd_X4_reduceAt_6 (by decide) (fun c6_1 => ?_) (fun c6_1 => ?_)
      · skip
        refine wp_return (st := []) dd_X4_reduceAt_65 rfl ?_
        exact k mm (fun x q1 q2 => h2 x q1 (by omega)) h3
      · skip
        refine wp_iload dd_X4_reduceAt_9 rfl ?_
        refine wp_aload dd_X4_reduceAt_11 rfl ?_
        refine wp_alen dd_X4_reduceAt_13 hkr hir (by decide) ?_
        show zw_Wp l mm_X4_reduceAt (zS L) 14 [some (zR o), some (zI le), some (zI v), some (zI p), some (zR r), some (zI a), none, none] [zI 5, zI a] mm 0 0 Q
        refine wp_icmp_ge (tgt := 65) dd_X4_reduceAt_14 (by decide) (fun c14_2 => ?_) (fun c14_2 => ?_)
        · skip
          refine wp_return (st := []) dd_X4_reduceAt_65 rfl ?_
          exact k mm (fun x q1 q2 => h2 x q1 (by omega)) h3
        · skip
          refine wp_iconst dd_X4_reduceAt_17 (zr_lit rfl) ?_
          refine wp_istore (ls2 := [some (zR o), some (zI le), some (zI v), some (zI p), some (zR r), some (zI a), some (zI 0), none]) dd_X4_reduceAt_18 rfl (by decide) rfl ?_
          refine wp_iconst dd_X4_reduceAt_20 (zr_lit rfl) ?_
          refine wp_istore (ls2 := [some (zR o), some (zI le), some (zI v), some (zI p), some (zR r), some (zI a), some (zI 0), some (zI 4)]) dd_X4_reduceAt_21 rfl (by decide) rfl ?_
          have lp23 : ∀ (nf : Nat) (w : Int) (b : Int), (-1 ≤ b) → (b ≤ 4) → (w = zhr (fun b => zpt (mem (o + 2)) le a b) v p 5 (4 - b).toNat) → (b + 1) < (nf : Int) → zw_Wp l mm_X4_reduceAt (zS L) 23 [some (zR o), some (zI le), some (zI v), some (zI p), some (zR r), some (zI a), some (zI w), some (zI b)] [] mm 0 0 Q := by
            intro nf
            induction nf with
            | zero =>
              intro w b h4 h5 hH hmu
              exfalso; omega
            | succ nf ih23 =>
              intro w b h4 h5 hH hmu
              have hw : 0 ≤ w ∧ w < p := by rw [hH]; exact zhr_rg (by omega) _
              have hwv := zmul_rg (a := w) (b := v) (A := 31) (B := 31) (by omega) (by omega) (by omega) (by omega)
              have hpt := zpt_rg (c := mem (o + 2)) (le := le) (a := a) (b := b) (p := p) (by omega) hc
              rw [← hmo] at hpt
              refine wp_iload dd_X4_reduceAt_23 rfl ?_
              refine wp_if_lt (tgt := 52) dd_X4_reduceAt_25 (by decide) (fun c25_3 => ?_) (fun c25_3 => ?_)
              · skip
                refine wp_aload dd_X4_reduceAt_52 rfl ?_
                refine wp_iload dd_X4_reduceAt_54 rfl ?_
                refine wp_iload dd_X4_reduceAt_56 rfl ?_
                refine wp_iast dd_X4_reduceAt_58 hkr hir (by omega) (by omega) ?_
                refine wp_iincC (ls2 := [some (zR o), some (zI le), some (zI v), some (zI p), some (zR r), some (zI (a + 1)), some (zI w), some (zI b)]) dd_X4_reduceAt_59 rfl rfl (by decide) (by omega) rfl ?_
                refine wp_goto (tgt := 3) dd_X4_reduceAt_62 (by decide) ?_
                refine wp_ls (zw_sub_of (a := [some (zR o), some (zI le), some (zI v), some (zI p), some (zR r), some (zI (a + 1)), none, none]) (And.intro rfl (And.intro rfl (And.intro rfl (And.intro rfl (And.intro rfl (And.intro rfl (trivial)))))))) ?_
                refine ih3 (a + 1) (zu mm r a w) ?_ ?_ ?_ ?_ ?_
                · first | omega | assumption | (intros; omega)
                · first | omega | assumption | (intros; omega)
                · intro x q1 q2
                  by_cases hx : x = a
                  · subst hx
                    rw [zu_s, hH, show (4 - b).toNat = 5 by omega]
                  · rw [zu_n (Or.inr hx)]; exact h2 x q1 (by omega)
                · intro x hx; rw [zu_row hx]; exact h3 x hx
                · omega
              · skip
                refine wp_iload dd_X4_reduceAt_28 rfl ?_
                refine wp_iload_n dd_X4_reduceAt_30 rfl ?_
                refine wp_imulC dd_X4_reduceAt_31 (by omega) ?_
                refine wp_aload_n dd_X4_reduceAt_32 rfl ?_
                refine wp_iload_n dd_X4_reduceAt_33 rfl ?_
                refine wp_iload dd_X4_reduceAt_34 rfl ?_
                refine wp_iload dd_X4_reduceAt_36 rfl ?_
                refine wp_callV (M' := mm_X4_part) (As := [zI le, zI a, zI b]) (rest := [zI (w * v)]) dd_X4_reduceAt_38 lk_X4_76 mV_X4_part ho.k ho.i ⟨_, _, rfl⟩ rfl (by decide) (by decide) (Nat.le_of_ble_eq_true rfl) rfl (sp_X4_part  o le a b (by first | assumption | omega) ?_)
                show zw_Wp l mm_X4_reduceAt (zS L) 41 [some (zR o), some (zI le), some (zI v), some (zI p), some (zR r), some (zI a), some (zI w), some (zI b)] [zI (zpt (mm (o + 2)) le a b), zI (w * v)] mm 0 0 Q
                refine wp_iaddC dd_X4_reduceAt_41 (by omega) ?_
                refine wp_iload_n dd_X4_reduceAt_42 rfl ?_
                refine wp_iremP dd_X4_reduceAt_43 (by omega) (by omega) ?_
                refine wp_istore (ls2 := [some (zR o), some (zI le), some (zI v), some (zI p), some (zR r), some (zI a), some (zI (((w * v) + (zpt (mm (o + 2)) le a b)) % p)), some (zI b)]) dd_X4_reduceAt_44 rfl (by decide) rfl ?_
                refine wp_iincC (ls2 := [some (zR o), some (zI le), some (zI v), some (zI p), some (zR r), some (zI a), some (zI (((w * v) + (zpt (mm (o + 2)) le a b)) % p)), some (zI (b + (-1)))]) dd_X4_reduceAt_46 rfl rfl (by decide) (by omega) rfl ?_
                refine wp_goto (tgt := 23) dd_X4_reduceAt_49 (by decide) ?_
                refine ih23 (((w * v) + (zpt (mm (o + 2)) le a b)) % p) (b + (-1)) ?_ ?_ ?_ ?_
                · first | omega | assumption | (intros; omega)
                · first | omega | assumption | (intros; omega)
                · have e1 : (4 - (b + -1)).toNat = (4 - b).toNat + 1 := by omega
                  rw [e1, zhr, ← hH, hmo]
                  show _ = (w * v + zpt (mem (o + 2)) le a (5 - 1 - ((4 - b).toNat : Int))) % p
                  rw [show (5 : Int) - 1 - ((4 - b).toNat : Int) = b by omega]
                · omega
          refine lp23 ((4 + 1 : Int)).toNat.succ 0 4 ?_ ?_ ?_ ?_
          · first | omega | assumption | (intros; omega)
          · first | omega | assumption | (intros; omega)
          · rfl
          · omega
  refine lp3 ((5 - 0 : Int)).toNat.succ 0 mem ?_ ?_ ?_ ?_ ?_
  · first | omega | assumption | (intros; omega)
  · first | omega | assumption | (intros; omega)
  · intros; omega
  · intros; rfl
  · omega

set_option maxRecDepth 100000 in
set_option maxHeartbeats 4000000 in
theorem sp_X4_leadingPart {l : Launch} {L : Nat} {mem : zMem} {Q : zQ}  (o : Nat) (le : Int) (r : Nat) (ho : zP o) (hl : le = 0 ∨ le = 1) (hkr : (zS L).2.1 r = (0, 5)) (hir : r < (zS L).1) (hro : r ≠ o + 2) (k : ∀ (mem2 : zMem), (∀ b : Int, 0 ≤ b → b < 5 → mem2 r b = zpt (mem (o + 2)) le (zdeg (mem (o + 2)) le 25) b) → (∀ a : Nat, a ≠ r → mem2 a = mem a) → Q none (zS L) mem2) : zw_Ok l mm_X4_leadingPart [zR o, zI le, zR r] (zS L) mem Q := by
  refine zw_okA (fun hA => ?_)
  have rg_le : -2147483648 ≤ le ∧ le < 2147483648 := hA.2.1
  refine zw_enter (by decide) (Nat.le_of_ble_eq_true rfl) rfl ?_
  show zw_Wp l mm_X4_leadingPart (zS L) 0 [some (zR o), some (zI le), some (zR r), none, none] [] mem 0 0 Q
  refine wp_aload_n dd_X4_leadingPart_0 rfl ?_
  refine wp_iload_n dd_X4_leadingPart_1 rfl ?_
  refine wp_callV (M' := mm_X4_degreeIn) (As := [zI le]) (rest := []) dd_X4_leadingPart_2 lk_X4_79 mV_X4_degreeIn ho.k ho.i ⟨_, _, rfl⟩ rfl (by decide) (by decide) (Nat.le_of_ble_eq_true rfl) rfl (sp_X4_degreeIn  o le (by first | assumption | omega) (by first | assumption | omega) ?_)
  show zw_Wp l mm_X4_leadingPart (zS L) 5 [some (zR o), some (zI le), some (zR r), none, none] [zI (zdeg (mem (o + 2)) le 25)] mem 0 0 Q
  refine wp_istore_n (ls2 := [some (zR o), some (zI le), some (zR r), some (zI (zdeg (mem (o + 2)) le 25)), none]) dd_X4_leadingPart_5 rfl (by decide) rfl ?_
  refine wp_iconst dd_X4_leadingPart_6 (zr_lit rfl) ?_
  refine wp_istore (ls2 := [some (zR o), some (zI le), some (zR r), some (zI (zdeg (mem (o + 2)) le 25)), some (zI 0)]) dd_X4_leadingPart_7 rfl (by decide) rfl ?_
  have lp9 : ∀ (nf : Nat) (b : Int) (mm : zMem), (0 ≤ b) → (b ≤ 5) → (∀ x : Int, 0 ≤ x → x < b → mm r x = zpt (mem (o + 2)) le (zdeg (mem (o + 2)) le 25) x) → (∀ x : Nat, x ≠ r → mm x = mem x) → (5 - b) < (nf : Int) → zw_Wp l mm_X4_leadingPart (zS L) 9 [some (zR o), some (zI le), some (zR r), some (zI (zdeg (mem (o + 2)) le 25)), some (zI b)] [] mm 0 0 Q := by
    intro nf
    induction nf with
    | zero =>
      intro b mm h0 h1 h2 h3 hmu
      exfalso; omega
    | succ nf ih9 =>
      intro b mm h0 h1 h2 h3 hmu
      have hmo : mm (o + 2) = mem (o + 2) := h3 _ (fun q => hro q.symm)
      refine wp_iload dd_X4_leadingPart_9 rfl ?_
      refine wp_iconst dd_X4_leadingPart_11 (zr_lit rfl) ?_
      refine wp_icmp_ge (tgt := 40) dd_X4_leadingPart_12 (by decide) (fun c12_1 => ?_) (fun c12_1 => ?_)
      · skip
        refine wp_return (st := []) dd_X4_leadingPart_40 rfl ?_
        exact k mm (fun x q1 q2 => h2 x q1 (by omega)) h3
      · skip
        refine wp_iload dd_X4_leadingPart_15 rfl ?_
        refine wp_aload_n dd_X4_leadingPart_17 rfl ?_
        refine wp_alen dd_X4_leadingPart_18 hkr hir (by decide) ?_
        show zw_Wp l mm_X4_leadingPart (zS L) 19 [some (zR o), some (zI le), some (zR r), some (zI (zdeg (mem (o + 2)) le 25)), some (zI b)] [zI 5, zI b] mm 0 0 Q
        refine wp_icmp_ge (tgt := 40) dd_X4_leadingPart_19 (by decide) (fun c19_2 => ?_) (fun c19_2 => ?_)
        · skip
          refine wp_return (st := []) dd_X4_leadingPart_40 rfl ?_
          exact k mm (fun x q1 q2 => h2 x q1 (by omega)) h3
        · skip
          refine wp_aload_n dd_X4_leadingPart_22 rfl ?_
          refine wp_iload dd_X4_leadingPart_23 rfl ?_
          refine wp_aload_n dd_X4_leadingPart_25 rfl ?_
          refine wp_iload_n dd_X4_leadingPart_26 rfl ?_
          refine wp_iload_n dd_X4_leadingPart_27 rfl ?_
          refine wp_iload dd_X4_leadingPart_28 rfl ?_
          refine wp_callV (M' := mm_X4_part) (As := [zI le, zI (zdeg (mem (o + 2)) le 25), zI b]) (rest := [zI b, zR r]) dd_X4_leadingPart_30 lk_X4_76 mV_X4_part ho.k ho.i ⟨_, _, rfl⟩ rfl (by decide) (by decide) (Nat.le_of_ble_eq_true rfl) rfl (sp_X4_part  o le (zdeg (mem (o + 2)) le 25) b (by first | assumption | omega) ?_)
          show zw_Wp l mm_X4_leadingPart (zS L) 33 [some (zR o), some (zI le), some (zR r), some (zI (zdeg (mem (o + 2)) le 25)), some (zI b)] [zI (zpt (mm (o + 2)) le (zdeg (mem (o + 2)) le 25) b), zI b, zR r] mm 0 0 Q
          refine wp_iast dd_X4_leadingPart_33 hkr hir (by omega) (by omega) ?_
          refine wp_iincC (ls2 := [some (zR o), some (zI le), some (zR r), some (zI (zdeg (mem (o + 2)) le 25)), some (zI (b + 1))]) dd_X4_leadingPart_34 rfl rfl (by decide) (by omega) rfl ?_
          refine wp_goto (tgt := 9) dd_X4_leadingPart_37 (by decide) ?_
          refine ih9 (b + 1) (zu mm r b (zpt (mm (o + 2)) le (zdeg (mem (o + 2)) le 25) b)) ?_ ?_ ?_ ?_ ?_
          · first | omega | assumption | (intros; omega)
          · first | omega | assumption | (intros; omega)
          · intro x q1 q2
            by_cases hx : x = b
            · subst hx
              rw [zu_s, hmo]
            · rw [zu_n (Or.inr hx)]; exact h2 x q1 (by omega)
          · intro x hx; rw [zu_row hx]; exact h3 x hx
          · omega
  refine lp9 ((5 - 0 : Int)).toNat.succ 0 mem ?_ ?_ ?_ ?_ ?_
  · first | omega | assumption | (intros; omega)
  · first | omega | assumption | (intros; omega)
  · intros; omega
  · intros; rfl
  · omega

set_option maxRecDepth 100000 in
set_option maxHeartbeats 4000000 in
theorem sp_X4_multipliesWith {l : Launch} {L : Nat} {mem : zMem} {Q : zQ}  (o : Nat) (r : Nat) (ho : zP o) (ho2 : zP r) (k : Q (some (zI (if zdeg (mem (o + 2)) 0 25 + zdeg (mem (r + 2)) 0 25 ≤ 4 ∧ zdeg (mem (o + 2)) 1 25 + zdeg (mem (r + 2)) 1 25 ≤ 4 then 1 else 0))) (zS L) mem) : zw_Ok l mm_X4_multipliesWith [zR o, zR r] (zS L) mem Q := by
  refine zw_enter (by decide) (Nat.le_of_ble_eq_true rfl) rfl ?_
  show zw_Wp l mm_X4_multipliesWith (zS L) 0 [some (zR o), some (zR r)] [] mem 0 0 Q
  have d1 := zdg_rg (zdeg_P (mem (o + 2)) 0 25 (by omega))
  have d2 := zdg_rg (zdeg_P (mem (r + 2)) 0 25 (by omega))
  have d3 := zdg_rg (zdeg_P (mem (o + 2)) 1 25 (by omega))
  have d4 := zdg_rg (zdeg_P (mem (r + 2)) 1 25 (by omega))
  refine wp_aload_n dd_X4_multipliesWith_0 rfl ?_
  refine wp_iconst dd_X4_multipliesWith_1 (zr_lit rfl) ?_
  refine wp_callV (M' := mm_X4_degreeIn) (As := [zI 0]) (rest := []) dd_X4_multipliesWith_2 lk_X4_79 mV_X4_degreeIn ho.k ho.i ⟨_, _, rfl⟩ rfl (by decide) (by decide) (Nat.le_of_ble_eq_true rfl) rfl (sp_X4_degreeIn  o 0 (by first | assumption | omega) (by first | assumption | omega) ?_)
  show zw_Wp l mm_X4_multipliesWith (zS L) 5 [some (zR o), some (zR r)] [zI (zdeg (mem (o + 2)) 0 25)] mem 0 0 Q
  refine wp_aload_n dd_X4_multipliesWith_5 rfl ?_
  refine wp_iconst dd_X4_multipliesWith_6 (zr_lit rfl) ?_
  refine wp_callV (M' := mm_X4_degreeIn) (As := [zI 0]) (rest := [zI (zdeg (mem (o + 2)) 0 25)]) dd_X4_multipliesWith_7 lk_X4_79 mV_X4_degreeIn ho2.k ho2.i ⟨_, _, rfl⟩ rfl (by decide) (by decide) (Nat.le_of_ble_eq_true rfl) rfl (sp_X4_degreeIn  r 0 (by first | assumption | omega) (by first | assumption | omega) ?_)
  show zw_Wp l mm_X4_multipliesWith (zS L) 10 [some (zR o), some (zR r)] [zI (zdeg (mem (r + 2)) 0 25), zI (zdeg (mem (o + 2)) 0 25)] mem 0 0 Q
  refine wp_iaddC dd_X4_multipliesWith_10 (by omega) ?_
  refine wp_iconst dd_X4_multipliesWith_11 (zr_lit rfl) ?_
  refine wp_icmp_gt (tgt := 34) dd_X4_multipliesWith_12 (by decide) (fun c12_1 => ?_) (fun c12_1 => ?_)
  · skip
    refine wp_iconst dd_X4_multipliesWith_34 (zr_lit rfl) ?_
    refine wp_zreturn (st := []) dd_X4_multipliesWith_35 rfl (by omega) ?_
    refine zq_I ?_ ?_ k
    · first | rfl | omega | (rw [if_pos (by omega)]) | (rw [if_neg (by omega)])
    · rfl
  · skip
    refine wp_aload_n dd_X4_multipliesWith_15 rfl ?_
    refine wp_iconst dd_X4_multipliesWith_16 (zr_lit rfl) ?_
    refine wp_callV (M' := mm_X4_degreeIn) (As := [zI 1]) (rest := []) dd_X4_multipliesWith_17 lk_X4_79 mV_X4_degreeIn ho.k ho.i ⟨_, _, rfl⟩ rfl (by decide) (by decide) (Nat.le_of_ble_eq_true rfl) rfl (sp_X4_degreeIn  o 1 (by first | assumption | omega) (by first | assumption | omega) ?_)
    show zw_Wp l mm_X4_multipliesWith (zS L) 20 [some (zR o), some (zR r)] [zI (zdeg (mem (o + 2)) 1 25)] mem 0 0 Q
    refine wp_aload_n dd_X4_multipliesWith_20 rfl ?_
    refine wp_iconst dd_X4_multipliesWith_21 (zr_lit rfl) ?_
    refine wp_callV (M' := mm_X4_degreeIn) (As := [zI 1]) (rest := [zI (zdeg (mem (o + 2)) 1 25)]) dd_X4_multipliesWith_22 lk_X4_79 mV_X4_degreeIn ho2.k ho2.i ⟨_, _, rfl⟩ rfl (by decide) (by decide) (Nat.le_of_ble_eq_true rfl) rfl (sp_X4_degreeIn  r 1 (by first | assumption | omega) (by first | assumption | omega) ?_)
    show zw_Wp l mm_X4_multipliesWith (zS L) 25 [some (zR o), some (zR r)] [zI (zdeg (mem (r + 2)) 1 25), zI (zdeg (mem (o + 2)) 1 25)] mem 0 0 Q
    refine wp_iaddC dd_X4_multipliesWith_25 (by omega) ?_
    refine wp_iconst dd_X4_multipliesWith_26 (zr_lit rfl) ?_
    refine wp_icmp_gt (tgt := 34) dd_X4_multipliesWith_27 (by decide) (fun c27_2 => ?_) (fun c27_2 => ?_)
    · skip
      refine wp_iconst dd_X4_multipliesWith_34 (zr_lit rfl) ?_
      refine wp_zreturn (st := []) dd_X4_multipliesWith_35 rfl (by omega) ?_
      refine zq_I ?_ ?_ k
      · first | rfl | omega | (rw [if_pos (by omega)]) | (rw [if_neg (by omega)])
      · rfl
    · skip
      refine wp_iconst dd_X4_multipliesWith_30 (zr_lit rfl) ?_
      refine wp_goto (tgt := 35) dd_X4_multipliesWith_31 (by decide) ?_
      refine wp_zreturn (st := []) dd_X4_multipliesWith_35 rfl (by omega) ?_
      refine zq_I ?_ ?_ k
      · first | rfl | omega | (rw [if_pos (by omega)]) | (rw [if_neg (by omega)])
      · rfl

