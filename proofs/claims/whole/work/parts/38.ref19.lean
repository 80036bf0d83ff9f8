/-! ===== the reference: remainders, common parts ===== -/
theorem zrs0_cg {p k0 : Int} {f f' g g' : Int → Int} (hf : ∀ x : Int, 0 ≤ x → x < 5 → f x = f' x) (hg : ∀ x : Int, 0 ≤ x → x < 5 → g x = g' x) : zrs0 p k0 f g = zrs0 p k0 f' g' := by
  unfold zrs0
  rw [zdp_cg 5 hf, zrs_cg 6 0 (-9) f f' g g' hf hg, zrs_cg 6 1 (zdp f' 5) f f' g g' hf hg]
theorem zsa_rg {c : Int → Int} {le v p : Int} (hp : 0 < p) (i : Int) : 0 ≤ zsa c le v p i ∧ zsa c le v p i < p := zhr_rg hp 5
def zyA (mem : zMem) (a b le v : Int) : Int := if zyB mem a b le 0 ≠ 0 then zyB mem a b le 0 else if v < 0 then -4 else if mem 67 1 ≤ v then -6 else 0
theorem zyA_c (mem : zMem) (a b le v : Int) : (zyA mem a b le v = 0 ∧ zyB mem a b le 0 = 0 ∧ 0 ≤ v ∧ v < mem 67 1) ∨ (-6 ≤ zyA mem a b le v ∧ zyA mem a b le v ≤ -1) := by
  have := zyB_c mem a b le 0
  unfold zyA
  split
  · omega
  · split
    · omega
    · split <;> omega
/-- the leading coefficients -/
def zld (c : Int → Int) (le : Int) : Int → Int := fun i => zpt c le (zdeg c le 25) i

set_option maxRecDepth 100000 in
set_option maxHeartbeats 4000000 in
theorem sp_X11_remainder {l : Launch} {L : Nat} {mem : zMem} {Q : zQ}  (a : Int) (b : Int) (le : Int) (v : Int) (k0 : Int) (hp : zPr (mem 67 1)) (hn : 0 ≤ mem 67 5 ∧ mem 67 5 ≤ 6) (hTa : ∀ q : Int, 0 ≤ q → q < mem 67 5 → zT mem q) (k : ∀ (r : Int) (mem2 : zMem), ((zyB mem a b le 0 ≠ 0 ∧ r = zyB mem a b le 0 ∧ mem2 = zno mem (zyB mem a b le 0)) ∨ (zyB mem a b le 0 = 0 ∧ (((v < 0 ∨ k0 < -1) ∧ r = -4 ∧ mem2 = zno mem (-4)) ∨ (0 ≤ v ∧ -1 ≤ k0 ∧ mem 67 1 ≤ v ∧ r = -6 ∧ mem2 = zno mem (-6)) ∨ (0 ≤ v ∧ -1 ≤ k0 ∧ v < mem 67 1 ∧ r = zrs0 (mem 67 1) k0 (zsa (zco mem a) le v (mem 67 1)) (zsa (zco mem b) le v (mem 67 1)) ∧ zKp mem mem2)))) → Q (some (zI r)) (zS L) mem2) : zw_Ok l mm_X11_remainder [zR 67, zI a, zI b, zI le, zI v, zI k0] (zS L) mem Q := by
  refine zw_okA (fun hA => ?_)
  have rg_a : -2147483648 ≤ a ∧ a < 2147483648 := hA.2.1
  have rg_b : -2147483648 ≤ b ∧ b < 2147483648 := hA.2.2.1
  have rg_le : -2147483648 ≤ le ∧ le < 2147483648 := hA.2.2.2.1
  have rg_v : -2147483648 ≤ v ∧ v < 2147483648 := hA.2.2.2.2.1
  have rg_k0 : -2147483648 ≤ k0 ∧ k0 < 2147483648 := hA.2.2.2.2.2.1
  refine zw_enter (by decide) (Nat.le_of_ble_eq_true rfl) rfl ?_
  show zw_Wp l mm_X11_remainder (zS L) 0 [some (zR 67), some (zI a), some (zI b), some (zI le), some (zI v), some (zI k0), none] [] mem 0 0 Q
  have hpr := hp.rg
  refine wp_aload_n dd_X11_remainder_0 rfl ?_
  refine wp_iload_n dd_X11_remainder_1 rfl ?_
  refine wp_iload_n dd_X11_remainder_2 rfl ?_
  refine wp_iload_n dd_X11_remainder_3 rfl ?_
  refine wp_callV (M' := mm_X11_notBoth) (As := [zI a, zI b, zI le]) (rest := []) dd_X11_remainder_4 lk_X11_251 mV_X11_notBoth kk_67 (zlt rfl) ⟨_, _, rfl⟩ rfl (by decide) (by decide) (Nat.le_of_ble_eq_true rfl) rfl (sp_X11_notBoth  a b le (by first | assumption | omega) (by first | assumption | omega) (by first | assumption | omega) ?_)
  show zw_Wp l mm_X11_remainder (zS L) 7 [some (zR 67), some (zI a), some (zI b), some (zI le), some (zI v), some (zI k0), none] [zI (if ¬ ((0 ≤ a ∧ a < mem 67 5) ∧ (0 ≤ b ∧ b < mem 67 5) ∧ 0 ≤ le ∧ le ≤ 1) then -1 else if ¬ (0 ≤ 0 ∧ 0 ≤ 1) then -2 else if zdeg (zco mem a) 0 25 < 0 ∨ zdeg (zco mem b) 0 25 < 0 then -3 else 0)] mem 0 0 Q
  change zw_Wp l _ _ 7 _ (zI (zyB mem a b le 0) :: _) _ _ _ _
  have hyc := zyB_c mem a b le 0
  refine wp_istore (ls2 := [some (zR 67), some (zI a), some (zI b), some (zI le), some (zI v), some (zI k0), some (zI (zyB mem a b le 0))]) dd_X11_remainder_7 rfl (by decide) rfl ?_
  refine wp_iload dd_X11_remainder_9 rfl ?_
  refine wp_if_ne (tgt := 47) dd_X11_remainder_11 (by decide) (fun c11_1 => ?_) (fun c11_1 => ?_)
  · skip
    refine wp_iload dd_X11_remainder_47 rfl ?_
    refine wp_if_eq (tgt := 59) dd_X11_remainder_49 (by decide) (fun c49_2 => ?_) (fun c49_2 => ?_)
    · skip
      have hz : zyB mem a b le 0 = 0 := by omega
      obtain ⟨⟨hia, hib, hl, htb⟩, hna, hnb⟩ := zyB_0 hz
      have hTx := hTa a hia.1 hia.2
      have hTy := hTa b hib.1 hib.2
      refine wp_aload_n dd_X11_remainder_59 rfl ?_
      refine wp_iload_n dd_X11_remainder_60 rfl ?_
      refine wp_iload_n dd_X11_remainder_61 rfl ?_
      refine wp_iload_n dd_X11_remainder_62 rfl ?_
      refine wp_callV (M' := mm_X11_takes) (As := [zI a, zI b, zI le]) (rest := []) dd_X11_remainder_63 lk_X11_201 mV_X11_takes kk_67 (zlt rfl) ⟨_, _, rfl⟩ rfl (by decide) (by decide) (Nat.le_of_ble_eq_true rfl) rfl (sp_X11_takes  a b le hp hTx hTy hl (fun me f1 g1 => ?_))
      show zw_Wp l mm_X11_remainder (zS L) 66 [some (zR 67), some (zI a), some (zI b), some (zI le), some (zI v), some (zI k0), some (zI (zyB mem a b le 0))] [] me 0 0 Q
      have hm1 : me 67 1 = mem 67 1 := g1.2 1 (by decide) (by decide)
      have hpc : ∀ x y : Int, 0 ≤ zpt (zco mem a) le x y ∧ zpt (zco mem a) le x y < mem 67 1 := fun x y => zpt_rg (by omega) (zco_rg hp hTx)
      have hpd : ∀ x y : Int, 0 ≤ zpt (zco mem b) le x y ∧ zpt (zco mem b) le x y < mem 67 1 := fun x y => zpt_rg (by omega) (zco_rg hp hTy)
      refine wp_aload_n dd_X11_remainder_66 rfl ?_
      refine wp_iload dd_X11_remainder_67 rfl ?_
      refine wp_callV (M' := mm_X11_standsAt) (As := [zI v]) (rest := []) dd_X11_remainder_69 lk_X11_254 mV_X11_standsAt kk_67 (zlt rfl) ⟨_, _, rfl⟩ rfl (by decide) (by decide) (Nat.le_of_ble_eq_true rfl) rfl (sp_X11_standsAt (zco mem a) (zco mem b) le v (by rw [hm1]; exact hp) f1 (by omega) (by rw [hm1]; exact hpc) (by rw [hm1]; exact hpd) (fun mf s1 s2 t1 t2 g2 => ?_))
      show zw_Wp l mm_X11_remainder (zS L) 72 [some (zR 67), some (zI a), some (zI b), some (zI le), some (zI v), some (zI k0), some (zI (zyB mem a b le 0))] [] mf 0 0 Q
      rw [hm1] at s1 s2 t1 t2
      have hm2 : mf 67 1 = mem 67 1 := (g2.2 1 (by decide) (by decide)).trans hm1
      refine wp_aload_n dd_X11_remainder_72 rfl ?_
      refine wp_iload dd_X11_remainder_73 rfl ?_
      refine wp_callV (M' := mm_X11_remains) (As := [zI k0]) (rest := []) dd_X11_remainder_75 lk_X11_258 mV_X11_remains kk_67 (zlt rfl) ⟨_, _, rfl⟩ rfl (by decide) (by decide) (Nat.le_of_ble_eq_true rfl) rfl (sp_X11_remains  k0 (by rw [hm2]; exact hp) (by rw [t1]; exact (zdp_cg 5 s1).symm) (by rw [t2]; exact (zdp_cg 5 s2).symm) (by intro x q1 q2; rw [hm2, s1 x q1 q2]; exact zsa_rg (by omega) x) (by intro x q1 q2; rw [hm2, s2 x q1 q2]; exact zsa_rg (by omega) x) (fun rr mg f3 g3 => ?_))
      show zw_Wp l mm_X11_remainder (zS L) 78 [some (zR 67), some (zI a), some (zI b), some (zI le), some (zI v), some (zI k0), some (zI (zyB mem a b le 0))] [zI rr] mg 0 0 Q
      rw [hm2, zrs0_cg s1 s2] at f3
      have hK : zKp mem mg := ⟨fun q h1 h2 h3 h4 h5 h6 h7 h8 h9 h10 h11 h12 => by rw [g3.1 q h1 h8 h9 h10, g2.1 q h1 h8 h9, g1.1 q h1 h3 h4], fun s h1 h2 h3 h4 h5 h6 h7 h8 => by rw [g3.2 s h5 h6, g2.2 s h5 h6, g1.2 s h2 h3]⟩
      refine wp_ireturn (st := []) dd_X11_remainder_78 rfl ?_
      exact k _ _ (Or.inr ⟨hz, Or.inr (Or.inr ⟨by omega, by omega, by omega, f3, hK⟩)⟩)
    · skip
      refine wp_aload_n dd_X11_remainder_52 rfl ?_
      refine wp_iload dd_X11_remainder_53 rfl ?_
      refine wp_callV (M' := mm_X11_no) (As := [zI (zyB mem a b le 0)]) (rest := []) dd_X11_remainder_55 lk_X11_120 mV_X11_no kk_67 (zlt rfl) ⟨_, _, rfl⟩ rfl (by decide) (by decide) (Nat.le_of_ble_eq_true rfl) rfl (sp_X11_no  (zyB mem a b le 0) (by first | assumption | omega) ?_)
      show zw_Wp l mm_X11_remainder (zS L) 58 [some (zR 67), some (zI a), some (zI b), some (zI le), some (zI v), some (zI k0), some (zI (zyB mem a b le 0))] [zI (zyB mem a b le 0)] (zu mem 68 (-(zyB mem a b le 0)) (zwr (mem 68 (-(zyB mem a b le 0)) + 1))) 0 0 Q
      refine wp_ireturn (st := []) dd_X11_remainder_58 rfl ?_
      exact k _ _ (Or.inl ⟨by assumption, rfl, rfl⟩)
  · skip
    refine wp_iload dd_X11_remainder_14 rfl ?_
    refine wp_if_lt (tgt := 25) dd_X11_remainder_16 (by decide) (fun c16_3 => ?_) (fun c16_3 => ?_)
    · skip
      refine wp_bipush dd_X11_remainder_25 (by decide) ?_
      refine wp_goto (tgt := 45) dd_X11_remainder_27 (by decide) ?_
      refine wp_istore (ls2 := [some (zR 67), some (zI a), some (zI b), some (zI le), some (zI v), some (zI k0), some (zI (-4))]) dd_X11_remainder_45 rfl (by decide) rfl ?_
      refine wp_iload dd_X11_remainder_47 rfl ?_
      refine wp_if_eq (tgt := 59) dd_X11_remainder_49 (by decide) (fun c49_4 => absurd c49_4 (by decide)) (fun c49_4 => ?_)
      refine wp_aload_n dd_X11_remainder_52 rfl ?_
      refine wp_iload dd_X11_remainder_53 rfl ?_
      refine wp_callV (M' := mm_X11_no) (As := [zI (-4)]) (rest := []) dd_X11_remainder_55 lk_X11_120 mV_X11_no kk_67 (zlt rfl) ⟨_, _, rfl⟩ rfl (by decide) (by decide) (Nat.le_of_ble_eq_true rfl) rfl (sp_X11_no  (-4) (by first | assumption | omega) ?_)
      show zw_Wp l mm_X11_remainder (zS L) 58 [some (zR 67), some (zI a), some (zI b), some (zI le), some (zI v), some (zI k0), some (zI (-4))] [zI (-4)] (zu mem 68 (-(-4)) (zwr (mem 68 (-(-4)) + 1))) 0 0 Q
      refine wp_ireturn (st := []) dd_X11_remainder_58 rfl ?_
      exact k _ _ (Or.inr ⟨by omega, Or.inl ⟨by omega, rfl, rfl⟩⟩)
    · skip
      refine wp_iload dd_X11_remainder_19 rfl ?_
      refine wp_iconst dd_X11_remainder_21 (zr_lit rfl) ?_
      refine wp_icmp_ge (tgt := 30) dd_X11_remainder_22 (by decide) (fun c22_5 => ?_) (fun c22_5 => ?_)
      · skip
        refine wp_iload dd_X11_remainder_30 rfl ?_
        refine wp_aload_n dd_X11_remainder_32 rfl ?_
        refine wp_getZ 1 rfl dd_X11_remainder_33 gf_X11_9 rfl kk_67 (by decide) (zlt rfl) ?_
        refine wp_icmp_lt (tgt := 44) dd_X11_remainder_36 (by decide) (fun c36_6 => ?_) (fun c36_6 => ?_)
        · skip
          refine wp_iconst dd_X11_remainder_44 (zr_lit rfl) ?_
          refine wp_istore (ls2 := [some (zR 67), some (zI a), some (zI b), some (zI le), some (zI v), some (zI k0), some (zI 0)]) dd_X11_remainder_45 rfl (by decide) rfl ?_
          refine wp_iload dd_X11_remainder_47 rfl ?_
          refine wp_if_eq (tgt := 59) dd_X11_remainder_49 (by decide) (fun c49_7 => ?_) (fun c49_7 => absurd c49_7 (by decide))
          have hz : zyB mem a b le 0 = 0 := by omega
          obtain ⟨⟨hia, hib, hl, htb⟩, hna, hnb⟩ := zyB_0 hz
          have hTx := hTa a hia.1 hia.2
          have hTy := hTa b hib.1 hib.2
          refine wp_aload_n dd_X11_remainder_59 rfl ?_
          refine wp_iload_n dd_X11_remainder_60 rfl ?_
          refine wp_iload_n dd_X11_remainder_61 rfl ?_
          refine wp_iload_n dd_X11_remainder_62 rfl ?_
          refine wp_callV (M' := mm_X11_takes) (As := [zI a, zI b, zI le]) (rest := []) dd_X11_remainder_63 lk_X11_201 mV_X11_takes kk_67 (zlt rfl) ⟨_, _, rfl⟩ rfl (by decide) (by decide) (Nat.le_of_ble_eq_true rfl) rfl (sp_X11_takes  a b le hp hTx hTy hl (fun me f1 g1 => ?_))
          show zw_Wp l mm_X11_remainder (zS L) 66 [some (zR 67), some (zI a), some (zI b), some (zI le), some (zI v), some (zI k0), some (zI 0)] [] me 0 0 Q
          have hm1 : me 67 1 = mem 67 1 := g1.2 1 (by decide) (by decide)
          have hpc : ∀ x y : Int, 0 ≤ zpt (zco mem a) le x y ∧ zpt (zco mem a) le x y < mem 67 1 := fun x y => zpt_rg (by omega) (zco_rg hp hTx)
          have hpd : ∀ x y : Int, 0 ≤ zpt (zco mem b) le x y ∧ zpt (zco mem b) le x y < mem 67 1 := fun x y => zpt_rg (by omega) (zco_rg hp hTy)
          refine wp_aload_n dd_X11_remainder_66 rfl ?_
          refine wp_iload dd_X11_remainder_67 rfl ?_
          refine wp_callV (M' := mm_X11_standsAt) (As := [zI v]) (rest := []) dd_X11_remainder_69 lk_X11_254 mV_X11_standsAt kk_67 (zlt rfl) ⟨_, _, rfl⟩ rfl (by decide) (by decide) (Nat.le_of_ble_eq_true rfl) rfl (sp_X11_standsAt (zco mem a) (zco mem b) le v (by rw [hm1]; exact hp) f1 (by omega) (by rw [hm1]; exact hpc) (by rw [hm1]; exact hpd) (fun mf s1 s2 t1 t2 g2 => ?_))
          show zw_Wp l mm_X11_remainder (zS L) 72 [some (zR 67), some (zI a), some (zI b), some (zI le), some (zI v), some (zI k0), some (zI 0)] [] mf 0 0 Q
          rw [hm1] at s1 s2 t1 t2
          have hm2 : mf 67 1 = mem 67 1 := (g2.2 1 (by decide) (by decide)).trans hm1
          refine wp_aload_n dd_X11_remainder_72 rfl ?_
          refine wp_iload dd_X11_remainder_73 rfl ?_
          refine wp_callV (M' := mm_X11_remains) (As := [zI k0]) (rest := []) dd_X11_remainder_75 lk_X11_258 mV_X11_remains kk_67 (zlt rfl) ⟨_, _, rfl⟩ rfl (by decide) (by decide) (Nat.le_of_ble_eq_true rfl) rfl (sp_X11_remains  k0 (by rw [hm2]; exact hp) (by rw [t1]; exact (zdp_cg 5 s1).symm) (by rw [t2]; exact (zdp_cg 5 s2).symm) (by intro x q1 q2; rw [hm2, s1 x q1 q2]; exact zsa_rg (by omega) x) (by intro x q1 q2; rw [hm2, s2 x q1 q2]; exact zsa_rg (by omega) x) (fun rr mg f3 g3 => ?_))
          show zw_Wp l mm_X11_remainder (zS L) 78 [some (zR 67), some (zI a), some (zI b), some (zI le), some (zI v), some (zI k0), some (zI 0)] [zI rr] mg 0 0 Q
          rw [hm2, zrs0_cg s1 s2] at f3
          have hK : zKp mem mg := ⟨fun q h1 h2 h3 h4 h5 h6 h7 h8 h9 h10 h11 h12 => by rw [g3.1 q h1 h8 h9 h10, g2.1 q h1 h8 h9, g1.1 q h1 h3 h4], fun s h1 h2 h3 h4 h5 h6 h7 h8 => by rw [g3.2 s h5 h6, g2.2 s h5 h6, g1.2 s h2 h3]⟩
          refine wp_ireturn (st := []) dd_X11_remainder_78 rfl ?_
          exact k _ _ (Or.inr ⟨hz, Or.inr (Or.inr ⟨by omega, by omega, by omega, f3, hK⟩)⟩)
        · skip
          refine wp_bipush dd_X11_remainder_39 (by decide) ?_
          refine wp_goto (tgt := 45) dd_X11_remainder_41 (by decide) ?_
          refine wp_istore (ls2 := [some (zR 67), some (zI a), some (zI b), some (zI le), some (zI v), some (zI k0), some (zI (-6))]) dd_X11_remainder_45 rfl (by decide) rfl ?_
          refine wp_iload dd_X11_remainder_47 rfl ?_
          refine wp_if_eq (tgt := 59) dd_X11_remainder_49 (by decide) (fun c49_8 => absurd c49_8 (by decide)) (fun c49_8 => ?_)
          refine wp_aload_n dd_X11_remainder_52 rfl ?_
          refine wp_iload dd_X11_remainder_53 rfl ?_
          refine wp_callV (M' := mm_X11_no) (As := [zI (-6)]) (rest := []) dd_X11_remainder_55 lk_X11_120 mV_X11_no kk_67 (zlt rfl) ⟨_, _, rfl⟩ rfl (by decide) (by decide) (Nat.le_of_ble_eq_true rfl) rfl (sp_X11_no  (-6) (by first | assumption | omega) ?_)
          show zw_Wp l mm_X11_remainder (zS L) 58 [some (zR 67), some (zI a), some (zI b), some (zI le), some (zI v), some (zI k0), some (zI (-6))] [zI (-6)] (zu mem 68 (-(-6)) (zwr (mem 68 (-(-6)) + 1))) 0 0 Q
          refine wp_ireturn (st := []) dd_X11_remainder_58 rfl ?_
          exact k _ _ (Or.inr ⟨by omega, Or.inr (Or.inl ⟨by omega, by omega, by omega, rfl, rfl⟩)⟩)
      · skip
        refine wp_bipush dd_X11_remainder_25 (by decide) ?_
        refine wp_goto (tgt := 45) dd_X11_remainder_27 (by decide) ?_
        refine wp_istore (ls2 := [some (zR 67), some (zI a), some (zI b), some (zI le), some (zI v), some (zI k0), some (zI (-4))]) dd_X11_remainder_45 rfl (by decide) rfl ?_
        refine wp_iload dd_X11_remainder_47 rfl ?_
        refine wp_if_eq (tgt := 59) dd_X11_remainder_49 (by decide) (fun c49_9 => absurd c49_9 (by decide)) (fun c49_9 => ?_)
        refine wp_aload_n dd_X11_remainder_52 rfl ?_
        refine wp_iload dd_X11_remainder_53 rfl ?_
        refine wp_callV (M' := mm_X11_no) (As := [zI (-4)]) (rest := []) dd_X11_remainder_55 lk_X11_120 mV_X11_no kk_67 (zlt rfl) ⟨_, _, rfl⟩ rfl (by decide) (by decide) (Nat.le_of_ble_eq_true rfl) rfl (sp_X11_no  (-4) (by first | assumption | omega) ?_)
        show zw_Wp l mm_X11_remainder (zS L) 58 [some (zR 67), some (zI a), some (zI b), some (zI le), some (zI v), some (zI k0), some (zI (-4))] [zI (-4)] (zu mem 68 (-(-4)) (zwr (mem 68 (-(-4)) + 1))) 0 0 Q
        refine wp_ireturn (st := []) dd_X11_remainder_58 rfl ?_
        exact k _ _ (Or.inr ⟨by omega, Or.inl ⟨by omega, rfl, rfl⟩⟩)

set_option maxRecDepth 100000 in
set_option maxHeartbeats 4000000 in
theorem sp_X11_common {l : Launch} {L : Nat} {mem : zMem} {Q : zQ}  (a : Int) (b : Int) (le : Int) (v : Int) (hp : zPr (mem 67 1)) (hn : 0 ≤ mem 67 5 ∧ mem 67 5 ≤ 6) (hTa : ∀ q : Int, 0 ≤ q → q < mem 67 5 → zT mem q) (k : ∀ (r : Int) (mem2 : zMem), ((zyA mem a b le v ≠ 0 ∧ r = zyA mem a b le v ∧ mem2 = zno mem (zyA mem a b le v)) ∨ (zyA mem a b le v = 0 ∧ r = zrs0 (mem 67 1) (-2) (zsa (zco mem a) le v (mem 67 1)) (zsa (zco mem b) le v (mem 67 1)) ∧ zKp mem mem2)) → Q (some (zI r)) (zS L) mem2) : zw_Ok l mm_X11_common [zR 67, zI a, zI b, zI le, zI v] (zS L) mem Q := by
  refine zw_okA (fun hA => ?_)
  have rg_a : -2147483648 ≤ a ∧ a < 2147483648 := hA.2.1
  have rg_b : -2147483648 ≤ b ∧ b < 2147483648 := hA.2.2.1
  have rg_le : -2147483648 ≤ le ∧ le < 2147483648 := hA.2.2.2.1
  have rg_v : -2147483648 ≤ v ∧ v < 2147483648 := hA.2.2.2.2.1
  refine zw_enter (by decide) (Nat.le_of_ble_eq_true rfl) rfl ?_
  show zw_Wp l mm_X11_common (zS L) 0 [some (zR 67), some (zI a), some (zI b), some (zI le), some (zI v), none] [] mem 0 0 Q
  have hpr := hp.rg
  refine wp_aload_n dd_X11_common_0 rfl ?_
  refine wp_iload_n dd_X11_common_1 rfl ?_
  refine wp_iload_n dd_X11_common_2 rfl ?_
  refine wp_iload_n dd_X11_common_3 rfl ?_
  refine wp_iload dd_X11_common_4 rfl ?_
  refine wp_callV (M' := mm_X11_notAt) (As := [zI a, zI b, zI le, zI v]) (rest := []) dd_X11_common_6 lk_X11_261 mV_X11_notAt kk_67 (zlt rfl) ⟨_, _, rfl⟩ rfl (by decide) (by decide) (Nat.le_of_ble_eq_true rfl) rfl (sp_X11_notAt  a b le v (by first | assumption | omega) (by first | assumption | omega) (by first | assumption | omega) ?_)
  show zw_Wp l mm_X11_common (zS L) 9 [some (zR 67), some (zI a), some (zI b), some (zI le), some (zI v), none] [zI (if zyB mem a b le 0 ≠ 0 then zyB mem a b le 0 else if v < 0 then -4 else if mem 67 1 ≤ v then -6 else 0)] mem 0 0 Q
  change zw_Wp l _ _ 9 _ (zI (zyA mem a b le v) :: _) _ _ _ _
  have hyc := zyA_c mem a b le v
  refine wp_istore (ls2 := [some (zR 67), some (zI a), some (zI b), some (zI le), some (zI v), some (zI (zyA mem a b le v))]) dd_X11_common_9 rfl (by decide) rfl ?_
  refine wp_iload dd_X11_common_11 rfl ?_
  refine wp_if_eq (tgt := 23) dd_X11_common_13 (by decide) (fun c13_1 => ?_) (fun c13_1 => ?_)
  · skip
    have hzA : zyA mem a b le v = 0 := by omega
    have hz : zyB mem a b le 0 = 0 := by omega
    obtain ⟨⟨hia, hib, hl, htb⟩, hna, hnb⟩ := zyB_0 hz
    have hTx := hTa a hia.1 hia.2
    have hTy := hTa b hib.1 hib.2
    refine wp_aload_n dd_X11_common_23 rfl ?_
    refine wp_iload_n dd_X11_common_24 rfl ?_
    refine wp_iload_n dd_X11_common_25 rfl ?_
    refine wp_iload_n dd_X11_common_26 rfl ?_
    refine wp_callV (M' := mm_X11_takes) (As := [zI a, zI b, zI le]) (rest := []) dd_X11_common_27 lk_X11_201 mV_X11_takes kk_67 (zlt rfl) ⟨_, _, rfl⟩ rfl (by decide) (by decide) (Nat.le_of_ble_eq_true rfl) rfl (sp_X11_takes  a b le hp hTx hTy hl (fun me f1 g1 => ?_))
    show zw_Wp l mm_X11_common (zS L) 30 [some (zR 67), some (zI a), some (zI b), some (zI le), some (zI v), some (zI (zyA mem a b le v))] [] me 0 0 Q
    have hm1 : me 67 1 = mem 67 1 := g1.2 1 (by decide) (by decide)
    have hpc : ∀ x y : Int, 0 ≤ zpt (zco mem a) le x y ∧ zpt (zco mem a) le x y < mem 67 1 := fun x y => zpt_rg (by omega) (zco_rg hp hTx)
    have hpd : ∀ x y : Int, 0 ≤ zpt (zco mem b) le x y ∧ zpt (zco mem b) le x y < mem 67 1 := fun x y => zpt_rg (by omega) (zco_rg hp hTy)
    refine wp_aload_n dd_X11_common_30 rfl ?_
    refine wp_iload dd_X11_common_31 rfl ?_
    refine wp_callV (M' := mm_X11_standsAt) (As := [zI v]) (rest := []) dd_X11_common_33 lk_X11_254 mV_X11_standsAt kk_67 (zlt rfl) ⟨_, _, rfl⟩ rfl (by decide) (by decide) (Nat.le_of_ble_eq_true rfl) rfl (sp_X11_standsAt (zco mem a) (zco mem b) le v (by rw [hm1]; exact hp) f1 (by omega) (by rw [hm1]; exact hpc) (by rw [hm1]; exact hpd) (fun mf s1 s2 t1 t2 g2 => ?_))
    show zw_Wp l mm_X11_common (zS L) 36 [some (zR 67), some (zI a), some (zI b), some (zI le), some (zI v), some (zI (zyA mem a b le v))] [] mf 0 0 Q
    rw [hm1] at s1 s2 t1 t2
    have hm2 : mf 67 1 = mem 67 1 := (g2.2 1 (by decide) (by decide)).trans hm1
    refine wp_aload_n dd_X11_common_36 rfl ?_
    refine wp_bipush dd_X11_common_37 (by decide) ?_
    refine wp_callV (M' := mm_X11_remains) (As := [zI (-2)]) (rest := []) dd_X11_common_39 lk_X11_258 mV_X11_remains kk_67 (zlt rfl) ⟨_, _, rfl⟩ rfl (by decide) (by decide) (Nat.le_of_ble_eq_true rfl) rfl (sp_X11_remains  (-2) (by rw [hm2]; exact hp) (by rw [t1]; exact (zdp_cg 5 s1).symm) (by rw [t2]; exact (zdp_cg 5 s2).symm) (by intro x q1 q2; rw [hm2, s1 x q1 q2]; exact zsa_rg (by omega) x) (by intro x q1 q2; rw [hm2, s2 x q1 q2]; exact zsa_rg (by omega) x) (fun rr mg f3 g3 => ?_))
    show zw_Wp l mm_X11_common (zS L) 42 [some (zR 67), some (zI a), some (zI b), some (zI le), some (zI v), some (zI (zyA mem a b le v))] [zI rr] mg 0 0 Q
    rw [hm2, zrs0_cg s1 s2] at f3
    have hK : zKp mem mg := ⟨fun q h1 h2 h3 h4 h5 h6 h7 h8 h9 h10 h11 h12 => by rw [g3.1 q h1 h8 h9 h10, g2.1 q h1 h8 h9, g1.1 q h1 h3 h4], fun s h1 h2 h3 h4 h5 h6 h7 h8 => by rw [g3.2 s h5 h6, g2.2 s h5 h6, g1.2 s h2 h3]⟩
    refine wp_ireturn (st := []) dd_X11_common_42 rfl ?_
    exact k _ _ (Or.inr ⟨hzA, f3, hK⟩)
  · skip
    refine wp_aload_n dd_X11_common_16 rfl ?_
    refine wp_iload dd_X11_common_17 rfl ?_
    refine wp_callV (M' := mm_X11_no) (As := [zI (zyA mem a b le v)]) (rest := []) dd_X11_common_19 lk_X11_120 mV_X11_no kk_67 (zlt rfl) ⟨_, _, rfl⟩ rfl (by decide) (by decide) (Nat.le_of_ble_eq_true rfl) rfl (sp_X11_no  (zyA mem a b le v) (by first | assumption | omega) ?_)
    show zw_Wp l mm_X11_common (zS L) 22 [some (zR 67), some (zI a), some (zI b), some (zI le), some (zI v), some (zI (zyA mem a b le v))] [zI (zyA mem a b le v)] (zu mem 68 (-(zyA mem a b le v)) (zwr (mem 68 (-(zyA mem a b le v)) + 1))) 0 0 Q
    refine wp_ireturn (st := []) dd_X11_common_22 rfl ?_
    exact k _ _ (Or.inl ⟨by assumption, rfl, rfl⟩)

set_option maxRecDepth 100000 in
set_option maxHeartbeats 4000000 in
theorem sp_X11_extra {l : Launch} {L : Nat} {mem : zMem} {Q : zQ}  (a : Int) (b : Int) (le : Int) (hp : zPr (mem 67 1)) (hn : 0 ≤ mem 67 5 ∧ mem 67 5 ≤ 6) (hTa : ∀ q : Int, 0 ≤ q → q < mem 67 5 → zT mem q) (k : ∀ (r : Int) (mem2 : zMem), ((zyB mem a b le 0 ≠ 0 ∧ r = zyB mem a b le 0 ∧ mem2 = zno mem (zyB mem a b le 0)) ∨ (zyB mem a b le 0 = 0 ∧ r = zrs0 (mem 67 1) (-2) (zld (zco mem a) le) (zld (zco mem b) le) ∧ zKp mem mem2)) → Q (some (zI r)) (zS L) mem2) : zw_Ok l mm_X11_extra [zR 67, zI a, zI b, zI le] (zS L) mem Q := by
  refine zw_okA (fun hA => ?_)
  have rg_a : -2147483648 ≤ a ∧ a < 2147483648 := hA.2.1
  have rg_b : -2147483648 ≤ b ∧ b < 2147483648 := hA.2.2.1
  have rg_le : -2147483648 ≤ le ∧ le < 2147483648 := hA.2.2.2.1
  refine zw_enter (by decide) (Nat.le_of_ble_eq_true rfl) rfl ?_
  show zw_Wp l mm_X11_extra (zS L) 0 [some (zR 67), some (zI a), some (zI b), some (zI le), none, none] [] mem 0 0 Q
  have hpr := hp.rg
  refine wp_aload_n dd_X11_extra_0 rfl ?_
  refine wp_iload_n dd_X11_extra_1 rfl ?_
  refine wp_iload_n dd_X11_extra_2 rfl ?_
  refine wp_iload_n dd_X11_extra_3 rfl ?_
  refine wp_callV (M' := mm_X11_notBoth) (As := [zI a, zI b, zI le]) (rest := []) dd_X11_extra_4 lk_X11_251 mV_X11_notBoth kk_67 (zlt rfl) ⟨_, _, rfl⟩ rfl (by decide) (by decide) (Nat.le_of_ble_eq_true rfl) rfl (sp_X11_notBoth  a b le (by first | assumption | omega) (by first | assumption | omega) (by first | assumption | omega) ?_)
  show zw_Wp l mm_X11_extra (zS L) 7 [some (zR 67), some (zI a), some (zI b), some (zI le), none, none] [zI (if ¬ ((0 ≤ a ∧ a < mem 67 5) ∧ (0 ≤ b ∧ b < mem 67 5) ∧ 0 ≤ le ∧ le ≤ 1) then -1 else if ¬ (0 ≤ 0 ∧ 0 ≤ 1) then -2 else if zdeg (zco mem a) 0 25 < 0 ∨ zdeg (zco mem b) 0 25 < 0 then -3 else 0)] mem 0 0 Q
  change zw_Wp l _ _ 7 _ (zI (zyB mem a b le 0) :: _) _ _ _ _
  have hyc := zyB_c mem a b le 0
  refine wp_istore (ls2 := [some (zR 67), some (zI a), some (zI b), some (zI le), some (zI (zyB mem a b le 0)), none]) dd_X11_extra_7 rfl (by decide) rfl ?_
  refine wp_iload dd_X11_extra_9 rfl ?_
  refine wp_if_eq (tgt := 21) dd_X11_extra_11 (by decide) (fun c11_1 => ?_) (fun c11_1 => ?_)
  · skip
    have hz : zyB mem a b le 0 = 0 := by omega
    obtain ⟨⟨hia, hib, hl, htb⟩, hna, hnb⟩ := zyB_0 hz
    have hTx := hTa a hia.1 hia.2
    have hTy := hTa b hib.1 hib.2
    refine wp_aload_n dd_X11_extra_21 rfl ?_
    refine wp_iload_n dd_X11_extra_22 rfl ?_
    refine wp_iload_n dd_X11_extra_23 rfl ?_
    refine wp_iload_n dd_X11_extra_24 rfl ?_
    refine wp_callV (M' := mm_X11_takes) (As := [zI a, zI b, zI le]) (rest := []) dd_X11_extra_25 lk_X11_201 mV_X11_takes kk_67 (zlt rfl) ⟨_, _, rfl⟩ rfl (by decide) (by decide) (Nat.le_of_ble_eq_true rfl) rfl (sp_X11_takes  a b le hp hTx hTy hl (fun me f1 g1 => ?_))
    show zw_Wp l mm_X11_extra (zS L) 28 [some (zR 67), some (zI a), some (zI b), some (zI le), some (zI (zyB mem a b le 0)), none] [] me 0 0 Q
    have hm1 : me 67 1 = mem 67 1 := g1.2 1 (by decide) (by decide)
    have hpc : ∀ x y : Int, 0 ≤ zpt (zco mem a) le x y ∧ zpt (zco mem a) le x y < mem 67 1 := fun x y => zpt_rg (by omega) (zco_rg hp hTx)
    have hpd : ∀ x y : Int, 0 ≤ zpt (zco mem b) le x y ∧ zpt (zco mem b) le x y < mem 67 1 := fun x y => zpt_rg (by omega) (zco_rg hp hTy)
    refine wp_iconst dd_X11_extra_28 (zr_lit rfl) ?_
    refine wp_istore (ls2 := [some (zR 67), some (zI a), some (zI b), some (zI le), some (zI (zyB mem a b le 0)), some (zI 0)]) dd_X11_extra_29 rfl (by decide) rfl ?_
    have lp31 : ∀ (nf : Nat) (i : Int) (mm : zMem), (0 ≤ i) → (i ≤ 5) → (∀ x : Int, 0 ≤ x → x < i → mm 81 x = zld (zco mem a) le x ∧ mm 82 x = zld (zco mem b) le x) → (∀ q : Nat, q ≠ 81 → q ≠ 82 → mm q = me q) → (5 - i) < (nf : Int) → zw_Wp l mm_X11_extra (zS L) 31 [some (zR 67), some (zI a), some (zI b), some (zI le), some (zI (zyB mem a b le 0)), some (zI i)] [] mm 0 0 Q := by
      intro nf
      induction nf with
      | zero =>
        intro i mm h0 h1 h2 h3 hmu
        exfalso; omega
      | succ nf ih31 =>
        intro i mm h0 h1 h2 h3 hmu
        have hTm : zTk mm (zco mem a) (zco mem b) le := zTk_kp f1 (h3 67 (by decide) (by decide)) (h3 76 (by decide) (by decide)) (h3 77 (by decide) (by decide))
        refine wp_iload dd_X11_extra_31 rfl ?_
        refine wp_iconst dd_X11_extra_33 (zr_lit rfl) ?_
        refine wp_icmp_ge (tgt := 77) dd_X11_extra_34 (by decide) (fun c34_2 => ?_) (fun c34_2 => ?_)
        · skip
          refine wp_aload_n dd_X11_extra_77 rfl ?_
          refine wp_aload_n dd_X11_extra_78 rfl ?_
          refine wp_getR dd_X11_extra_79 gf_X11_67 rfl kk_67 (by decide) (zlt rfl) rr_67_21 ?_
          refine wp_iconst dd_X11_extra_82 (zr_lit rfl) ?_
          refine wp_callS (M' := mm_X11_deepOf) (As := [zR 81, zI 4]) (rest := [zR 67]) dd_X11_extra_83 lk_X11_230 mS_X11_deepOf rfl (by decide) (by decide) (Nat.le_of_ble_eq_true rfl) rfl (sp_X11_deepOf  81 4 kk_81 (zlt rfl) (by decide) ?_)
          show zw_Wp l mm_X11_extra (zS L) 86 [some (zR 67), some (zI a), some (zI b), some (zI le), some (zI (zyB mem a b le 0)), some (zI i)] [zI (zdp (mm 81) (4 + 1 : Int).toNat), zR 67] mm 0 0 Q
          refine wp_putzI 24 rfl dd_X11_extra_86 pf_X11_234 rfl kk_67 (by decide) (zlt rfl) ?_
          refine wp_aload_n dd_X11_extra_89 rfl ?_
          refine wp_aload_n dd_X11_extra_90 rfl ?_
          refine wp_getR dd_X11_extra_91 gf_X11_70 rfl kk_67 (by decide) (zlt rfl) rr_67_22 ?_
          refine wp_iconst dd_X11_extra_94 (zr_lit rfl) ?_
          refine wp_callS (M' := mm_X11_deepOf) (As := [zR 82, zI 4]) (rest := [zR 67]) dd_X11_extra_95 lk_X11_230 mS_X11_deepOf rfl (by decide) (by decide) (Nat.le_of_ble_eq_true rfl) rfl (sp_X11_deepOf  82 4 kk_82 (zlt rfl) (by decide) ?_)
          show zw_Wp l mm_X11_extra (zS L) 98 [some (zR 67), some (zI a), some (zI b), some (zI le), some (zI (zyB mem a b le 0)), some (zI i)] [zI (zdp ((zu mm 67 24 (zdp (mm 81) (4 + 1 : Int).toNat)) 82) (4 + 1 : Int).toNat), zR 67] (zu mm 67 24 (zdp (mm 81) (4 + 1 : Int).toNat)) 0 0 Q
          refine wp_putzI 25 rfl dd_X11_extra_98 pf_X11_237 rfl kk_67 (by decide) (zlt rfl) ?_
          obtain ⟨mf, hmf⟩ : ∃ mf, mf = zu (zu mm 67 24 (zdp (mm 81) (4 + 1 : Int).toNat)) 67 25 (zdp ((zu mm 67 24 (zdp (mm 81) (4 + 1 : Int).toNat)) 82) (4 + 1 : Int).toNat) := ⟨_, rfl⟩
          have s1 : ∀ x : Int, 0 ≤ x → x < 5 → mf 81 x = zld (zco mem a) le x := fun x q1 q2 => by rw [hmf, zu_row (by decide), zu_row (by decide)]; exact (h2 x q1 (by omega)).1
          have s2 : ∀ x : Int, 0 ≤ x → x < 5 → mf 82 x = zld (zco mem b) le x := fun x q1 q2 => by rw [hmf, zu_row (by decide), zu_row (by decide)]; exact (h2 x q1 (by omega)).2
          have t1 : mf 67 24 = zdp (zld (zco mem a) le) 5 := by rw [hmf, zu_n (Or.inr (by decide)), zu_s]; exact zdp_cg 5 (fun x q1 q2 => (h2 x q1 (by omega)).1)
          have t2 : mf 67 25 = zdp (zld (zco mem b) le) 5 := by rw [hmf, zu_s, zu_row (by decide)]; exact zdp_cg 5 (fun x q1 q2 => (h2 x q1 (by omega)).2)
          have g2 : (∀ q : Nat, q ≠ 67 → q ≠ 81 → q ≠ 82 → mf q = me q) ∧ ∀ s : Int, s ≠ 24 → s ≠ 25 → mf 67 s = me 67 s := ⟨fun q q1 q2 q3 => by rw [hmf, zu_row q1, zu_row q1]; exact h3 q q2 q3, fun s q1 q2 => by rw [hmf, zu_n (Or.inr q2), zu_n (Or.inr q1), h3 67 (by decide) (by decide)]⟩
          have hm2 : mf 67 1 = mem 67 1 := (g2.2 1 (by decide) (by decide)).trans hm1
          rw [← hmf]
          refine wp_aload_n dd_X11_extra_101 rfl ?_
          refine wp_bipush dd_X11_extra_102 (by decide) ?_
          refine wp_callV (M' := mm_X11_remains) (As := [zI (-2)]) (rest := []) dd_X11_extra_104 lk_X11_258 mV_X11_remains kk_67 (zlt rfl) ⟨_, _, rfl⟩ rfl (by decide) (by decide) (Nat.le_of_ble_eq_true rfl) rfl (sp_X11_remains  (-2) (by rw [hm2]; exact hp) (by rw [t1]; exact (zdp_cg 5 s1).symm) (by rw [t2]; exact (zdp_cg 5 s2).symm) (by intro x q1 q2; rw [hm2, s1 x q1 q2]; exact hpc _ _) (by intro x q1 q2; rw [hm2, s2 x q1 q2]; exact hpd _ _) (fun rr mg f3 g3 => ?_))
          show zw_Wp l mm_X11_extra (zS L) 107 [some (zR 67), some (zI a), some (zI b), some (zI le), some (zI (zyB mem a b le 0)), some (zI i)] [zI rr] mg 0 0 Q
          rw [hm2, zrs0_cg s1 s2] at f3
          have hK : zKp mem mg := ⟨fun q h1 h2 h3 h4 h5 h6 h7 h8 h9 h10 h11 h12 => by rw [g3.1 q h1 h8 h9 h10, g2.1 q h1 h8 h9, g1.1 q h1 h3 h4], fun s h1 h2 h3 h4 h5 h6 h7 h8 => by rw [g3.2 s h5 h6, g2.2 s h5 h6, g1.2 s h2 h3]⟩
          refine wp_ireturn (st := []) dd_X11_extra_107 rfl ?_
          exact k _ _ (Or.inr ⟨hz, f3, hK⟩)
        · skip
          refine wp_aload_n dd_X11_extra_37 rfl ?_
          refine wp_getR dd_X11_extra_38 gf_X11_67 rfl kk_67 (by decide) (zlt rfl) rr_67_21 ?_
          refine wp_iload dd_X11_extra_41 rfl ?_
          refine wp_aload_n dd_X11_extra_43 rfl ?_
          refine wp_aload_n dd_X11_extra_44 rfl ?_
          refine wp_getZ 15 rfl dd_X11_extra_45 gf_X11_180 rfl kk_67 (by decide) (zlt rfl) ?_
          refine wp_iload dd_X11_extra_48 rfl ?_
          refine wp_callV (M' := mm_X11_oneAt) (As := [zI (mm 67 15), zI i]) (rest := [zI i, zR 81]) dd_X11_extra_50 lk_X11_189 mV_X11_oneAt kk_67 (zlt rfl) ⟨_, _, rfl⟩ rfl (by decide) (by decide) (Nat.le_of_ble_eq_true rfl) rfl (sp_X11_oneAt (zco mem a) (zco mem b) le (mm 67 15) i hTm (by omega) ?_)
          show zw_Wp l mm_X11_extra (zS L) 53 [some (zR 67), some (zI a), some (zI b), some (zI le), some (zI (zyB mem a b le 0)), some (zI i)] [zI (zpt (zco mem a) le (mm 67 15) i), zI i, zR 81] mm 0 0 Q
          refine wp_iast dd_X11_extra_53 kk_81 (zlt rfl) (by omega) (by omega) ?_
          refine wp_aload_n dd_X11_extra_54 rfl ?_
          refine wp_getR dd_X11_extra_55 gf_X11_70 rfl kk_67 (by decide) (zlt rfl) rr_67_22 ?_
          refine wp_iload dd_X11_extra_58 rfl ?_
          refine wp_aload_n dd_X11_extra_60 rfl ?_
          refine wp_aload_n dd_X11_extra_61 rfl ?_
          refine wp_getV 16 (v := mm 67 16) rfl (by rw [zu_row (by decide)]) dd_X11_extra_62 gf_X11_183 rfl kk_67 (by decide) (zlt rfl) ?_
          refine wp_iload dd_X11_extra_65 rfl ?_
          refine wp_callV (M' := mm_X11_twoAt) (As := [zI (mm 67 16), zI i]) (rest := [zI i, zR 82]) dd_X11_extra_67 lk_X11_192 mV_X11_twoAt kk_67 (zlt rfl) ⟨_, _, rfl⟩ rfl (by decide) (by decide) (Nat.le_of_ble_eq_true rfl) rfl (sp_X11_twoAt (zco mem a) (zco mem b) le (mm 67 16) i (zTk_kp hTm (zu_row (by decide)) (zu_row (by decide)) (zu_row (by decide))) (by omega) ?_)
          show zw_Wp l mm_X11_extra (zS L) 70 [some (zR 67), some (zI a), some (zI b), some (zI le), some (zI (zyB mem a b le 0)), some (zI i)] [zI (zpt (zco mem b) le (mm 67 16) i), zI i, zR 82] (zu mm 81 i (zpt (zco mem a) le (mm 67 15) i)) 0 0 Q
          refine wp_iast dd_X11_extra_70 kk_82 (zlt rfl) (by omega) (by omega) ?_
          refine wp_iincC (ls2 := [some (zR 67), some (zI a), some (zI b), some (zI le), some (zI (zyB mem a b le 0)), some (zI (i + 1))]) dd_X11_extra_71 rfl rfl (by decide) (by omega) rfl ?_
          refine wp_goto (tgt := 31) dd_X11_extra_74 (by decide) ?_
          refine ih31 (i + 1) (zu (zu mm 81 i (zpt (zco mem a) le (mm 67 15) i)) 82 i (zpt (zco mem b) le (mm 67 16) i)) ?_ ?_ ?_ ?_ ?_
          · first | omega | assumption | (intros; omega)
          · first | omega | assumption | (intros; omega)
          · intro x q1 q2
            by_cases hx : x = i
            · subst hx
              refine ⟨?_, ?_⟩
              · rw [zu_row (by decide), zu_s, hTm.2.2.1]; rfl
              · rw [zu_s, hTm.2.2.2.1]; rfl
            · refine ⟨?_, ?_⟩
              · rw [zu_row (by decide), zu_n (Or.inr hx)]; exact (h2 x q1 (by omega)).1
              · rw [zu_n (Or.inr hx), zu_row (by decide)]; exact (h2 x q1 (by omega)).2
          · intro q q1 q2; rw [zu_row q2, zu_row q1]; exact h3 q q1 q2
          · omega
    refine lp31 ((5 - 0 : Int)).toNat.succ 0 me ?_ ?_ ?_ ?_ ?_
    · first | omega | assumption | (intros; omega)
    · first | omega | assumption | (intros; omega)
    · intros; omega
    · intros; rfl
    · omega
  · skip
    refine wp_aload_n dd_X11_extra_14 rfl ?_
    refine wp_iload dd_X11_extra_15 rfl ?_
    refine wp_callV (M' := mm_X11_no) (As := [zI (zyB mem a b le 0)]) (rest := []) dd_X11_extra_17 lk_X11_120 mV_X11_no kk_67 (zlt rfl) ⟨_, _, rfl⟩ rfl (by decide) (by decide) (Nat.le_of_ble_eq_true rfl) rfl (sp_X11_no  (zyB mem a b le 0) (by first | assumption | omega) ?_)
    show zw_Wp l mm_X11_extra (zS L) 20 [some (zR 67), some (zI a), some (zI b), some (zI le), some (zI (zyB mem a b le 0)), none] [zI (zyB mem a b le 0)] (zu mem 68 (-(zyB mem a b le 0)) (zwr (mem 68 (-(zyB mem a b le 0)) + 1))) 0 0 Q
    refine wp_ireturn (st := []) dd_X11_extra_20 rfl ?_
    exact k _ _ (Or.inl ⟨by assumption, rfl, rfl⟩)

