/-! ===== the reference: norms ===== -/
/-- the remainder by f of a row of nine -/
def zmr (p : Int) (f h : Int → Int) : Int → Int := zqr f (zdp f 5) (zinv (f (zdp f 5)) p) p (9 - zdp f 5).toNat h
def zshf (h : Int → Int) : Int → Int := fun x => if 0 < x ∧ x < 9 then h (x - 1) else 0
def zmx (p : Int) (f g : Int → Int) : Nat → Int → Int
  | 0 => z5 g
  | r + 1 => zshf (zmr p f (zmx p f g r))
theorem zmr_rg {p : Int} {f h : Int → Int} (hp : 0 < p) (hh : ∀ x : Int, 0 ≤ x → x < 9 → 0 ≤ h x ∧ h x < p) : ∀ x : Int, 0 ≤ x → x < 9 → 0 ≤ zmr p f h x ∧ zmr p f h x < p := zqr_rg hp _ _ hh
theorem zmx_rg {p : Int} {f g : Int → Int} (hp : 0 < p) (hg : ∀ x : Int, 0 ≤ g x ∧ g x < p) : ∀ (r : Nat) (x : Int), 0 ≤ x → x < 9 → 0 ≤ zmx p f g r x ∧ zmx p f g r x < p
  | 0, x, _, _ => by
    show 0 ≤ z5 g x ∧ z5 g x < p
    unfold z5
    split
    · exact hg x
    · omega
  | r + 1, x, q1, q2 => by
    show 0 ≤ zshf (zmr p f (zmx p f g r)) x ∧ zshf (zmr p f (zmx p f g r)) x < p
    unfold zshf
    split
    · exact zmr_rg hp (zmx_rg hp hg r) _ (by omega) (by omega)
    · omega
def znc (p : Int) (f g : Int → Int) (r c k : Int) : Int := if k = 0 then zmr p f (zmx p f g r.toNat) c else 0
theorem znc_rg {p sz : Int} {f g : Int → Int} (hp : 0 < p) (hs : sz ≤ 8) (hg : ∀ x : Int, 0 ≤ g x ∧ g x < p) : zCr (znc p f g) p sz := by
  intro r c k _ h2 _
  unfold znc
  split
  · exact zmr_rg hp (zmx_rg hp hg _) _ (by omega) (by omega)
  · omega

set_option maxRecDepth 100000 in
set_option maxHeartbeats 4000000 in
theorem sp_X11_norm {l : Launch} {L : Nat} {mem : zMem} {Q : zQ}  (a : Int) (b : Int) (le : Int) (v : Int) (hp : zPr (mem 67 1)) (hn : 0 ≤ mem 67 5 ∧ mem 67 5 ≤ 6) (hTa : ∀ q : Int, 0 ≤ q → q < mem 67 5 → zT mem q) (k : ∀ (r : Int) (mem2 : zMem), ((zyA mem a b le v ≠ 0 ∧ r = zyA mem a b le v ∧ mem2 = zno mem (zyA mem a b le v)) ∨ (zyA mem a b le v = 0 ∧ ((zdp (zsa (zco mem a) le v (mem 67 1)) 5 < 0 ∧ r = -9 ∧ zKp mem mem2) ∨ (0 ≤ zdp (zsa (zco mem a) le v (mem 67 1)) 5 ∧ r = zdet (znc (mem 67 1) (zsa (zco mem a) le v (mem 67 1)) (zsa (zco mem b) le v (mem 67 1))) (mem 67 1) (zdp (zsa (zco mem a) le v (mem 67 1)) 5) 0 ∧ zKp mem mem2)))) → Q (some (zI r)) (zS L) mem2) : zw_Ok l mm_X11_norm [zR 67, zI a, zI b, zI le, zI v] (zS L) mem Q := by
  refine zw_okA (fun hA => ?_)
  have rg_a : -2147483648 ≤ a ∧ a < 2147483648 := hA.2.1
  have rg_b : -2147483648 ≤ b ∧ b < 2147483648 := hA.2.2.1
  have rg_le : -2147483648 ≤ le ∧ le < 2147483648 := hA.2.2.2.1
  have rg_v : -2147483648 ≤ v ∧ v < 2147483648 := hA.2.2.2.2.1
  refine zw_enter (by decide) (Nat.le_of_ble_eq_true rfl) rfl ?_
  show zw_Wp l mm_X11_norm (zS L) 0 [some (zR 67), some (zI a), some (zI b), some (zI le), some (zI v), none, none, none, none] [] mem 0 0 Q
  have hpr := hp.rg
  refine wp_aload_n dd_X11_norm_0 rfl ?_
  refine wp_iload_n dd_X11_norm_1 rfl ?_
  refine wp_iload_n dd_X11_norm_2 rfl ?_
  refine wp_iload_n dd_X11_norm_3 rfl ?_
  refine wp_iload dd_X11_norm_4 rfl ?_
  refine wp_callV (M' := mm_X11_notAt) (As := [zI a, zI b, zI le, zI v]) (rest := []) dd_X11_norm_6 lk_X11_261 mV_X11_notAt kk_67 (zlt rfl) ⟨_, _, rfl⟩ rfl (by decide) (by decide) (Nat.le_of_ble_eq_true rfl) rfl (sp_X11_notAt  a b le v (by first | assumption | omega) (by first | assumption | omega) (by first | assumption | omega) ?_)
  show zw_Wp l mm_X11_norm (zS L) 9 [some (zR 67), some (zI a), some (zI b), some (zI le), some (zI v), none, none, none, none] [zI (if zyB mem a b le 0 ≠ 0 then zyB mem a b le 0 else if v < 0 then -4 else if mem 67 1 ≤ v then -6 else 0)] mem 0 0 Q
  change zw_Wp l _ _ 9 _ (zI (zyA mem a b le v) :: _) _ _ _ _
  have hyc := zyA_c mem a b le v
  refine wp_istore (ls2 := [some (zR 67), some (zI a), some (zI b), some (zI le), some (zI v), some (zI (zyA mem a b le v)), none, none, none]) dd_X11_norm_9 rfl (by decide) rfl ?_
  refine wp_iload dd_X11_norm_11 rfl ?_
  refine wp_if_eq (tgt := 23) dd_X11_norm_13 (by decide) (fun c13_1 => ?_) (fun c13_1 => ?_)
  · skip
    have hzA : zyA mem a b le v = 0 := by omega
    have hz : zyB mem a b le 0 = 0 := by omega
    obtain ⟨⟨hia, hib, hl, htb⟩, hna, hnb⟩ := zyB_0 hz
    have hTx := hTa a hia.1 hia.2
    have hTy := hTa b hib.1 hib.2
    refine wp_aload_n dd_X11_norm_23 rfl ?_
    refine wp_iload_n dd_X11_norm_24 rfl ?_
    refine wp_iload_n dd_X11_norm_25 rfl ?_
    refine wp_iload_n dd_X11_norm_26 rfl ?_
    refine wp_callV (M' := mm_X11_takes) (As := [zI a, zI b, zI le]) (rest := []) dd_X11_norm_27 lk_X11_201 mV_X11_takes kk_67 (zlt rfl) ⟨_, _, rfl⟩ rfl (by decide) (by decide) (Nat.le_of_ble_eq_true rfl) rfl (sp_X11_takes  a b le hp hTx hTy hl (fun me f1 g1 => ?_))
    show zw_Wp l mm_X11_norm (zS L) 30 [some (zR 67), some (zI a), some (zI b), some (zI le), some (zI v), some (zI (zyA mem a b le v)), none, none, none] [] me 0 0 Q
    have hm1 : me 67 1 = mem 67 1 := g1.2 1 (by decide) (by decide)
    have hpc : ∀ x y : Int, 0 ≤ zpt (zco mem a) le x y ∧ zpt (zco mem a) le x y < mem 67 1 := fun x y => zpt_rg (by omega) (zco_rg hp hTx)
    have hpd : ∀ x y : Int, 0 ≤ zpt (zco mem b) le x y ∧ zpt (zco mem b) le x y < mem 67 1 := fun x y => zpt_rg (by omega) (zco_rg hp hTy)
    refine wp_aload_n dd_X11_norm_30 rfl ?_
    refine wp_iload dd_X11_norm_31 rfl ?_
    refine wp_callV (M' := mm_X11_standsAt) (As := [zI v]) (rest := []) dd_X11_norm_33 lk_X11_254 mV_X11_standsAt kk_67 (zlt rfl) ⟨_, _, rfl⟩ rfl (by decide) (by decide) (Nat.le_of_ble_eq_true rfl) rfl (sp_X11_standsAt (zco mem a) (zco mem b) le v (by rw [hm1]; exact hp) f1 (by omega) (by rw [hm1]; exact hpc) (by rw [hm1]; exact hpd) (fun mf s1 s2 t1 t2 g2 => ?_))
    show zw_Wp l mm_X11_norm (zS L) 36 [some (zR 67), some (zI a), some (zI b), some (zI le), some (zI v), some (zI (zyA mem a b le v)), none, none, none] [] mf 0 0 Q
    rw [hm1] at s1 s2 t1 t2
    have hm2 : mf 67 1 = mem 67 1 := (g2.2 1 (by decide) (by decide)).trans hm1
    have hKn : ∀ m9 : zMem, (∀ q : Nat, q ≠ 67 → q ≠ 78 → q ≠ 79 → q ≠ 83 → m9 q = mf q) → (∀ s : Int, s ≠ 18 → m9 67 s = mf 67 s) → zKp mem m9 := fun m9 w1 w2 => ⟨fun q h1 h2 h3 h4 h5 h6 h7 h8 h9 h10 h11 h12 => by rw [w1 q h1 h5 h6 h10, g2.1 q h1 h8 h9, g1.1 q h1 h3 h4], fun s h1 h2 h3 h4 h5 h6 h7 h8 => by rw [w2 s h4, g2.2 s h5 h6, g1.2 s h2 h3]⟩
    have gE := zdp_rg (zsa (zco mem a) le v (mem 67 1)) 5
    refine wp_aload_n dd_X11_norm_36 rfl ?_
    refine wp_getZ 24 rfl dd_X11_norm_37 gf_X11_234 rfl kk_67 (by decide) (zlt rfl) ?_
    refine wp_if_ge (tgt := 46) dd_X11_norm_40 (by decide) (fun c40_2 => ?_) (fun c40_2 => ?_)
    · skip
      refine wp_aload_n dd_X11_norm_46 rfl ?_
      refine wp_aload_n dd_X11_norm_47 rfl ?_
      refine wp_getZ 24 rfl dd_X11_norm_48 gf_X11_234 rfl kk_67 (by decide) (zlt rfl) ?_
      refine wp_putzI 18 rfl dd_X11_norm_51 pf_X11_186 rfl kk_67 (by decide) (zlt rfl) ?_
      refine wp_aload_n dd_X11_norm_54 rfl ?_
      refine wp_aload_n dd_X11_norm_55 rfl ?_
      refine wp_getR dd_X11_norm_56 gf_X11_70 rfl kk_67 (by decide) (zlt rfl) rr_67_22 ?_
      refine wp_callV (M' := mm_X11_takesLeft) (As := [zR 82]) (rest := []) dd_X11_norm_59 lk_X11_243 mV_X11_takesLeft kk_67 (zlt rfl) ⟨_, _, rfl⟩ rfl (by decide) (by decide) (Nat.le_of_ble_eq_true rfl) rfl (sp_X11_takesLeft  82 kk_82 (zlt rfl) (by decide) (fun mh f4 g4 => ?_))
      show zw_Wp l mm_X11_norm (zS L) 62 [some (zR 67), some (zI a), some (zI b), some (zI le), some (zI v), some (zI (zyA mem a b le v)), none, none, none] [] mh 0 0 Q
      have e67 : mh 67 = zu mf 67 18 (mf 67 24) 67 := g4 67 (by decide)
      have e1 : mh 67 1 = mem 67 1 := by rw [e67, zu_n (Or.inr (by decide))]; exact hm2
      have e18 : mh 67 18 = zdp (zsa (zco mem a) le v (mem 67 1)) 5 := by rw [e67, zu_s]; exact t1
      have e24 : mh 67 24 = zdp (zsa (zco mem a) le v (mem 67 1)) 5 := by rw [e67, zu_n (Or.inr (by decide))]; exact t1
      have e81 : ∀ x : Int, 0 ≤ x → x < 5 → mh 81 x = (zsa (zco mem a) le v (mem 67 1)) x := fun x q1 q2 => by rw [g4 81 (by decide), zu_row (by decide)]; exact s1 x q1 q2
      refine wp_iconst dd_X11_norm_62 (zr_lit rfl) ?_
      refine wp_istore (ls2 := [some (zR 67), some (zI a), some (zI b), some (zI le), some (zI v), some (zI (zyA mem a b le v)), some (zI 0), none, none]) dd_X11_norm_63 rfl (by decide) rfl ?_
      have lp65 : ∀ (nf : Nat) (ro : Int) (mm : zMem), (0 ≤ ro) → (ro ≤ zdp (zsa (zco mem a) le v (mem 67 1)) 5) → (∀ r9 c9 k9 : Int, 0 ≤ r9 → (0 ≤ c9 ∧ c9 < zdp (zsa (zco mem a) le v (mem 67 1)) 5) → (0 ≤ k9 ∧ k9 < 9) → (r9 < ro) → mm 78 (9 * (8 * r9 + c9) + k9) = znc (mem 67 1) (zsa (zco mem a) le v (mem 67 1)) (zsa (zco mem b) le v (mem 67 1)) r9 c9 k9) → (∀ x : Int, 0 ≤ x → x < 9 → mm 83 x = zmx (mem 67 1) (zsa (zco mem a) le v (mem 67 1)) (zsa (zco mem b) le v (mem 67 1)) ro.toNat x) → (∀ q : Nat, q ≠ 78 → q ≠ 83 → mm q = mh q) → (zdp (zsa (zco mem a) le v (mem 67 1)) 5 - ro) < (nf : Int) → zw_Wp l mm_X11_norm (zS L) 65 [some (zR 67), some (zI a), some (zI b), some (zI le), some (zI v), some (zI (zyA mem a b le v)), some (zI ro), none, none] [] mm 0 0 Q := by
        intro nf
        induction nf with
        | zero =>
          intro ro mm r0 r1 tb lf fr hmu
          exfalso; omega
        | succ nf ih65 =>
          intro ro mm r0 r1 tb lf fr hmu
          have m67 : mm 67 = mh 67 := fr 67 (by decide) (by decide)
          have m1 : mm 67 1 = mem 67 1 := by rw [m67]; exact e1
          have m18 : mm 67 18 = zdp (zsa (zco mem a) le v (mem 67 1)) 5 := by rw [m67]; exact e18
          have m24 : mm 67 24 = zdp (zsa (zco mem a) le v (mem 67 1)) 5 := by rw [m67]; exact e24
          have m81 : ∀ x : Int, 0 ≤ x → x < 5 → mm 81 x = (zsa (zco mem a) le v (mem 67 1)) x := fun x q1 q2 => by rw [fr 81 (by decide) (by decide)]; exact e81 x q1 q2
          refine wp_iload dd_X11_norm_65 rfl ?_
          refine wp_aload_n dd_X11_norm_67 rfl ?_
          refine wp_getZ 18 rfl dd_X11_norm_68 gf_X11_186 rfl kk_67 (by decide) (zlt rfl) ?_
          refine wp_icmp_ge (tgt := 199) dd_X11_norm_71 (by decide) (fun c71_3 => ?_) (fun c71_3 => ?_)
          · skip
            refine wp_aload_n dd_X11_norm_199 rfl ?_
            refine wp_getR dd_X11_norm_200 gf_X11_61 rfl kk_67 (by decide) (zlt rfl) rr_67_19 ?_
            refine wp_aload_n dd_X11_norm_203 rfl ?_
            refine wp_callV (M' := mm_X11_determinant) (As := []) (rest := [zR 79]) dd_X11_norm_204 lk_X11_221 mV_X11_determinant kk_67 (zlt rfl) ⟨_, _, rfl⟩ rfl (by decide) (by decide) (Nat.le_of_ble_eq_true rfl) rfl (sp_X11_determinant (znc (mem 67 1) (zsa (zco mem a) le v (mem 67 1)) (zsa (zco mem b) le v (mem 67 1))) (zdp (zsa (zco mem a) le v (mem 67 1)) 5)  (by rw [m1]; exact hp) ⟨m18, by omega, by omega⟩ (fun r9 c9 k9 q1 q2 q3 => tb r9 c9 k9 q1.1 q2 q3 (by omega)) (by rw [m1]; exact znc_rg (by omega) (by omega) (fun y => zsa_rg (by omega) y)) (fun mz f6 g6 => ?_))
            show zw_Wp l mm_X11_norm (zS L) 207 [some (zR 67), some (zI a), some (zI b), some (zI le), some (zI v), some (zI (zyA mem a b le v)), some (zI ro), none, none] [zI (41 * (1 * 2 ^ (zdp (zsa (zco mem a) le v (mem 67 1)) 5).toNat - 1)), zR 79] mz 0 0 Q
            obtain ⟨n1, n2, n3, n4⟩ := z2_sz (sz := zdp (zsa (zco mem a) le v (mem 67 1)) 5) ⟨by omega, by omega⟩
            rw [m1] at f6
            refine wp_iald dd_X11_norm_207 kk_79 (zlt rfl) (by omega) (by omega) ?_
            refine wp_ireturn (st := []) dd_X11_norm_208 rfl ?_
            refine k _ _ (Or.inr ⟨hzA, Or.inr ⟨by omega, ?_, hKn mz (fun q q1 q2 q3 q4 => ?_) (fun s q1 => ?_)⟩⟩)
            · rw [← f6 0 (by omega) (by omega), Int.add_zero]
            · rw [g6 q q3, fr q q2 q4, g4 q q4, zu_row q1]
            · rw [g6 67 (by decide), m67, e67, zu_n (Or.inr q1)]
          · skip
            refine wp_aload_n dd_X11_norm_74 rfl ?_
            refine wp_aload_n dd_X11_norm_75 rfl ?_
            refine wp_getR dd_X11_norm_76 gf_X11_67 rfl kk_67 (by decide) (zlt rfl) rr_67_21 ?_
            refine wp_aload_n dd_X11_norm_79 rfl ?_
            refine wp_getZ 24 rfl dd_X11_norm_80 gf_X11_234 rfl kk_67 (by decide) (zlt rfl) ?_
            refine wp_callV (M' := mm_X11_divides) (As := [zR 81, zI (mm 67 24)]) (rest := []) dd_X11_norm_83 lk_X11_247 mV_X11_divides kk_67 (zlt rfl) ⟨_, _, rfl⟩ rfl (by decide) (by decide) (Nat.le_of_ble_eq_true rfl) rfl (sp_X11_divides  81 (mm 67 24) (by rw [m1]; exact hp) kk_81 (zlt rfl) (by decide) (by omega) (by intro x q1 q2; rw [m1, m81 x q1 q2]; exact zsa_rg (by omega) x) (by intro x q1 q2; rw [m1, lf x q1 q2]; exact zmx_rg (by omega) (fun y => zsa_rg (by omega) y) _ x q1 q2) (fun mi f5 g5 => ?_))
            show zw_Wp l mm_X11_norm (zS L) 86 [some (zR 67), some (zI a), some (zI b), some (zI le), some (zI v), some (zI (zyA mem a b le v)), some (zI ro), none, none] [] mi 0 0 Q
            have key : ∀ x : Int, 0 ≤ x → x < 9 → mi 83 x = zmr (mem 67 1) (zsa (zco mem a) le v (mem 67 1)) (zmx (mem 67 1) (zsa (zco mem a) le v (mem 67 1)) (zsa (zco mem b) le v (mem 67 1)) ro.toNat) x := by
              rw [f5, m1, m24, m81 (zdp (zsa (zco mem a) le v (mem 67 1)) 5) (by omega) (by omega)]
              exact zqr_cg (by omega) m81 _ _ _ (by omega) lf
            have i18 : mi 67 18 = zdp (zsa (zco mem a) le v (mem 67 1)) 5 := by rw [g5 67 (by decide)]; exact m18
            refine wp_iconst dd_X11_norm_86 (zr_lit rfl) ?_
            refine wp_istore (ls2 := [some (zR 67), some (zI a), some (zI b), some (zI le), some (zI v), some (zI (zyA mem a b le v)), some (zI ro), some (zI 0), none]) dd_X11_norm_87 rfl (by decide) rfl ?_
            have lp89 : ∀ (nf : Nat) (co : Int) (mn : zMem), (0 ≤ co) → (co ≤ zdp (zsa (zco mem a) le v (mem 67 1)) 5) → (∀ r9 c9 k9 : Int, 0 ≤ r9 → (0 ≤ c9 ∧ c9 < zdp (zsa (zco mem a) le v (mem 67 1)) 5) → (0 ≤ k9 ∧ k9 < 9) → (r9 < ro ∨ (r9 = ro ∧ c9 < co)) → mn 78 (9 * (8 * r9 + c9) + k9) = znc (mem 67 1) (zsa (zco mem a) le v (mem 67 1)) (zsa (zco mem b) le v (mem 67 1)) r9 c9 k9) → (∀ q : Nat, q ≠ 78 → mn q = mi q) → (zdp (zsa (zco mem a) le v (mem 67 1)) 5 - co) < (nf : Int) → zw_Wp l mm_X11_norm (zS L) 89 [some (zR 67), some (zI a), some (zI b), some (zI le), some (zI v), some (zI (zyA mem a b le v)), some (zI ro), some (zI co), none] [] mn 0 0 Q := by
              intro nf
              induction nf with
              | zero =>
                intro co mn c0 c1 tc nr hmu
                exfalso; omega
              | succ nf ih89 =>
                intro co mn c0 c1 tc nr hmu
                have n18 : mn 67 18 = zdp (zsa (zco mem a) le v (mem 67 1)) 5 := by rw [nr 67 (by decide)]; exact i18
                refine wp_iload dd_X11_norm_89 rfl ?_
                refine wp_aload_n dd_X11_norm_91 rfl ?_
                refine wp_getZ 18 rfl dd_X11_norm_92 gf_X11_186 rfl kk_67 (by decide) (zlt rfl) ?_
                refine wp_icmp_ge (tgt := 155) dd_X11_norm_95 (by decide) (fun c95_4 => ?_) (fun c95_4 => ?_)
                · skip
                  refine wp_bipush dd_X11_norm_155 (by decide) ?_
                  refine wp_istore (ls2 := [some (zR 67), some (zI a), some (zI b), some (zI le), some (zI v), some (zI (zyA mem a b le v)), some (zI ro), some (zI 8), none]) dd_X11_norm_157 rfl (by decide) rfl ?_
                  have lp159 : ∀ (nf : Nat) (i : Int) (ml : zMem), (0 ≤ i) → (i ≤ 8) → (∀ x : Int, 0 ≤ x → x < 9 → ml 83 x = if i < x then mn 83 (x - 1) else mn 83 x) → (∀ q : Nat, q ≠ 83 → ml q = mn q) → (i) < (nf : Int) → zw_Wp l mm_X11_norm (zS L) 159 [some (zR 67), some (zI a), some (zI b), some (zI le), some (zI v), some (zI (zyA mem a b le v)), some (zI ro), some (zI i), none] [] ml 0 0 Q := by
                    intro nf
                    induction nf with
                    | zero =>
                      intro i ml l0 l1 l2 l3 hmu
                      exfalso; omega
                    | succ nf ih159 =>
                      intro i ml l0 l1 l2 l3 hmu
                      refine wp_iload dd_X11_norm_159 rfl ?_
                      refine wp_if_le (tgt := 186) dd_X11_norm_161 (by decide) (fun c161_5 => ?_) (fun c161_5 => ?_)
                      · skip
                        refine wp_aload_n dd_X11_norm_186 rfl ?_
                        refine wp_getR dd_X11_norm_187 gf_X11_73 rfl kk_67 (by decide) (zlt rfl) rr_67_23 ?_
                        refine wp_iconst dd_X11_norm_190 (zr_lit rfl) ?_
                        refine wp_iconst dd_X11_norm_191 (zr_lit rfl) ?_
                        refine wp_iast dd_X11_norm_192 kk_83 (zlt rfl) (by omega) (by omega) ?_
                        refine wp_iincC (ls2 := [some (zR 67), some (zI a), some (zI b), some (zI le), some (zI v), some (zI (zyA mem a b le v)), some (zI (ro + 1)), some (zI i), none]) dd_X11_norm_193 rfl rfl (by decide) (by omega) rfl ?_
                        refine wp_goto (tgt := 65) dd_X11_norm_196 (by decide) ?_
                        refine wp_ls (zw_sub_of (a := [some (zR 67), some (zI a), some (zI b), some (zI le), some (zI v), some (zI (zyA mem a b le v)), some (zI (ro + 1)), none, none]) (And.intro rfl (And.intro rfl (And.intro rfl (And.intro rfl (And.intro rfl (And.intro rfl (And.intro rfl (trivial))))))))) ?_
                        refine ih65 (ro + 1) (zu ml 83 0 0) ?_ ?_ ?_ ?_ ?_ ?_
                        · first | omega | assumption | (intros; omega)
                        · first | omega | assumption | (intros; omega)
                        · intro r9 c9 k9 q1 q2 q3 q4
                          rw [zu_row (by decide), l3 78 (by decide)]
                          exact tc r9 c9 k9 q1 q2 q3 (by omega)
                        · intro x q1 q2
                          rw [show (ro + 1).toNat = ro.toNat + 1 by omega, zmx]
                          unfold zshf
                          by_cases hx : x = 0
                          · subst hx; rw [zu_s, if_neg (by omega)]
                          · rw [zu_n (Or.inr hx), if_pos (by omega), l2 x q1 q2, if_pos (by omega), nr 83 (by decide)]
                            exact key (x - 1) (by omega) (by omega)
                        · intro q q1 q2; rw [zu_row q2, l3 q q2, nr q q1, g5 q q2]; exact fr q q1 q2
                        · omega
                      · skip
                        refine wp_aload_n dd_X11_norm_164 rfl ?_
                        refine wp_getR dd_X11_norm_165 gf_X11_73 rfl kk_67 (by decide) (zlt rfl) rr_67_23 ?_
                        refine wp_iload dd_X11_norm_168 rfl ?_
                        refine wp_aload_n dd_X11_norm_170 rfl ?_
                        refine wp_getR dd_X11_norm_171 gf_X11_73 rfl kk_67 (by decide) (zlt rfl) rr_67_23 ?_
                        refine wp_iload dd_X11_norm_174 rfl ?_
                        refine wp_iconst dd_X11_norm_176 (zr_lit rfl) ?_
                        refine wp_isubC dd_X11_norm_177 (by omega) ?_
                        refine wp_iald dd_X11_norm_178 kk_83 (zlt rfl) (by omega) (by omega) ?_
                        refine wp_iast dd_X11_norm_179 kk_83 (zlt rfl) (by omega) (by omega) ?_
                        refine wp_iincC (ls2 := [some (zR 67), some (zI a), some (zI b), some (zI le), some (zI v), some (zI (zyA mem a b le v)), some (zI ro), some (zI (i + (-1))), none]) dd_X11_norm_180 rfl rfl (by decide) (by omega) rfl ?_
                        refine wp_goto (tgt := 159) dd_X11_norm_183 (by decide) ?_
                        refine ih159 (i + (-1)) (zu ml 83 i (ml 83 (i - 1))) ?_ ?_ ?_ ?_ ?_
                        · first | omega | assumption | (intros; omega)
                        · first | omega | assumption | (intros; omega)
                        · intro x q1 q2
                          by_cases hx : x = i
                          · subst hx; rw [zu_s, if_pos (by omega), l2 (x - 1) (by omega) (by omega), if_neg (by omega)]
                          · rw [zu_n (Or.inr hx), l2 x q1 q2]
                            by_cases hl9 : i < x
                            · rw [if_pos hl9, if_pos (by omega)]
                            · rw [if_neg hl9, if_neg (by omega)]
                        · intro q hq; rw [zu_row hq]; exact l3 q hq
                        · omega
                  refine lp159 ((8 : Int)).toNat.succ 8 mn ?_ ?_ ?_ ?_ ?_
                  · first | omega | assumption | (intros; omega)
                  · first | omega | assumption | (intros; omega)
                  · intro x q1 q2; rw [if_neg (by omega)]
                  · intros; rfl
                  · omega
                · skip
                  refine wp_iconst dd_X11_norm_98 (zr_lit rfl) ?_
                  refine wp_istore (ls2 := [some (zR 67), some (zI a), some (zI b), some (zI le), some (zI v), some (zI (zyA mem a b le v)), some (zI ro), some (zI co), some (zI 0)]) dd_X11_norm_99 rfl (by decide) rfl ?_
                  have lp101 : ∀ (nf : Nat) (kk : Int) (mo : zMem), (0 ≤ kk) → (kk ≤ 9) → (∀ r9 c9 k9 : Int, 0 ≤ r9 → (0 ≤ c9 ∧ c9 < zdp (zsa (zco mem a) le v (mem 67 1)) 5) → (0 ≤ k9 ∧ k9 < 9) → (r9 < ro ∨ (r9 = ro ∧ (c9 < co ∨ (c9 = co ∧ k9 < kk)))) → mo 78 (9 * (8 * r9 + c9) + k9) = znc (mem 67 1) (zsa (zco mem a) le v (mem 67 1)) (zsa (zco mem b) le v (mem 67 1)) r9 c9 k9) → (∀ q : Nat, q ≠ 78 → mo q = mi q) → (9 - kk) < (nf : Int) → zw_Wp l mm_X11_norm (zS L) 101 [some (zR 67), some (zI a), some (zI b), some (zI le), some (zI v), some (zI (zyA mem a b le v)), some (zI ro), some (zI co), some (zI kk)] [] mo 0 0 Q := by
                    intro nf
                    induction nf with
                    | zero =>
                      intro kk mo k0 k1 td orr hmu
                      exfalso; omega
                    | succ nf ih101 =>
                      intro kk mo k0 k1 td orr hmu
                      refine wp_iload dd_X11_norm_101 rfl ?_
                      refine wp_bipush dd_X11_norm_103 (by decide) ?_
                      refine wp_icmp_ge (tgt := 149) dd_X11_norm_105 (by decide) (fun c105_6 => ?_) (fun c105_6 => ?_)
                      · skip
                        refine wp_iincC (ls2 := [some (zR 67), some (zI a), some (zI b), some (zI le), some (zI v), some (zI (zyA mem a b le v)), some (zI ro), some (zI (co + 1)), some (zI kk)]) dd_X11_norm_149 rfl rfl (by decide) (by omega) rfl ?_
                        refine wp_goto (tgt := 89) dd_X11_norm_152 (by decide) ?_
                        refine wp_ls (zw_sub_of (a := [some (zR 67), some (zI a), some (zI b), some (zI le), some (zI v), some (zI (zyA mem a b le v)), some (zI ro), some (zI (co + 1)), none]) (And.intro rfl (And.intro rfl (And.intro rfl (And.intro rfl (And.intro rfl (And.intro rfl (And.intro rfl (And.intro rfl (trivial)))))))))) ?_
                        refine ih89 (co + 1) mo ?_ ?_ ?_ ?_ ?_
                        · first | omega | assumption | (intros; omega)
                        · first | omega | assumption | (intros; omega)
                        · intro r9 c9 k9 q1 q2 q3 q4; exact td r9 c9 k9 q1 q2 q3 (by omega)
                        · exact orr
                        · omega
                      · skip
                        refine wp_aload_n dd_X11_norm_108 rfl ?_
                        refine wp_getR dd_X11_norm_109 gf_X11_58 rfl kk_67 (by decide) (zlt rfl) rr_67_17 ?_
                        refine wp_bipush dd_X11_norm_112 (by decide) ?_
                        refine wp_bipush dd_X11_norm_114 (by decide) ?_
                        refine wp_iload dd_X11_norm_116 rfl ?_
                        refine wp_imulC dd_X11_norm_118 (by omega) ?_
                        refine wp_iload dd_X11_norm_119 rfl ?_
                        refine wp_iaddC dd_X11_norm_121 (by omega) ?_
                        refine wp_imulC dd_X11_norm_122 (by omega) ?_
                        refine wp_iload dd_X11_norm_123 rfl ?_
                        refine wp_iaddC dd_X11_norm_125 (by omega) ?_
                        refine wp_iload dd_X11_norm_126 rfl ?_
                        refine wp_if_ne (tgt := 141) dd_X11_norm_128 (by decide) (fun c128_7 => ?_) (fun c128_7 => ?_)
                        · skip
                          refine wp_iconst dd_X11_norm_141 (zr_lit rfl) ?_
                          refine wp_iast dd_X11_norm_142 kk_78 (zlt rfl) (by omega) (by omega) ?_
                          refine wp_iincC (ls2 := [some (zR 67), some (zI a), some (zI b), some (zI le), some (zI v), some (zI (zyA mem a b le v)), some (zI ro), some (zI co), some (zI (kk + 1))]) dd_X11_norm_143 rfl rfl (by decide) (by omega) rfl ?_
                          refine wp_goto (tgt := 101) dd_X11_norm_146 (by decide) ?_
                          refine ih101 (kk + 1) (zu mo 78 ((9 * ((8 * ro) + co)) + kk) 0) ?_ ?_ ?_ ?_ ?_
                          · first | omega | assumption | (intros; omega)
                          · first | omega | assumption | (intros; omega)
                          · intro r9 c9 k9 q1 q2 q3 q4
                            by_cases hx : r9 = ro ∧ c9 = co ∧ k9 = kk
                            · rw [hx.1, hx.2.1, hx.2.2, zu_s]
                              unfold znc
                              first
                              | (rw [if_pos (by omega), orr 83 (by decide)]; exact key co (by omega) (by omega))
                              | (rw [if_neg (by omega)])
                            · rw [zu_n (Or.inr (by omega))]; exact td r9 c9 k9 q1 q2 q3 (by omega)
                          · intro q hq; rw [zu_row hq]; exact orr q hq
                          · omega
                        · skip
                          refine wp_aload_n dd_X11_norm_131 rfl ?_
                          refine wp_getR dd_X11_norm_132 gf_X11_73 rfl kk_67 (by decide) (zlt rfl) rr_67_23 ?_
                          refine wp_iload dd_X11_norm_135 rfl ?_
                          refine wp_iald dd_X11_norm_137 kk_83 (zlt rfl) (by omega) (by omega) ?_
                          refine wp_goto (tgt := 142) dd_X11_norm_138 (by decide) ?_
                          refine wp_iast dd_X11_norm_142 kk_78 (zlt rfl) (by omega) (by omega) ?_
                          refine wp_iincC (ls2 := [some (zR 67), some (zI a), some (zI b), some (zI le), some (zI v), some (zI (zyA mem a b le v)), some (zI ro), some (zI co), some (zI (kk + 1))]) dd_X11_norm_143 rfl rfl (by decide) (by omega) rfl ?_
                          refine wp_goto (tgt := 101) dd_X11_norm_146 (by decide) ?_
                          refine ih101 (kk + 1) (zu mo 78 ((9 * ((8 * ro) + co)) + kk) (mo 83 co)) ?_ ?_ ?_ ?_ ?_
                          · first | omega | assumption | (intros; omega)
                          · first | omega | assumption | (intros; omega)
                          · intro r9 c9 k9 q1 q2 q3 q4
                            by_cases hx : r9 = ro ∧ c9 = co ∧ k9 = kk
                            · rw [hx.1, hx.2.1, hx.2.2, zu_s]
                              unfold znc
                              first
                              | (rw [if_pos (by omega), orr 83 (by decide)]; exact key co (by omega) (by omega))
                              | (rw [if_neg (by omega)])
                            · rw [zu_n (Or.inr (by omega))]; exact td r9 c9 k9 q1 q2 q3 (by omega)
                          · intro q hq; rw [zu_row hq]; exact orr q hq
                          · omega
                  refine lp101 ((9 - 0 : Int)).toNat.succ 0 mn ?_ ?_ ?_ ?_ ?_
                  · first | omega | assumption | (intros; omega)
                  · first | omega | assumption | (intros; omega)
                  · intro r9 c9 k9 q1 q2 q3 q4; exact tc r9 c9 k9 q1 q2 q3 (by omega)
                  · exact nr
                  · omega
            refine lp89 ((zdp (zsa (zco mem a) le v (mem 67 1)) 5 - 0 : Int)).toNat.succ 0 mi ?_ ?_ ?_ ?_ ?_
            · first | omega | assumption | (intros; omega)
            · first | omega | assumption | (intros; omega)
            · intro r9 c9 k9 q1 q2 q3 q4; rw [g5 78 (by decide)]; exact tb r9 c9 k9 q1 q2 q3 (by omega)
            · intros; rfl
            · omega
      refine lp65 ((zdp (zsa (zco mem a) le v (mem 67 1)) 5 - 0 : Int)).toNat.succ 0 mh ?_ ?_ ?_ ?_ ?_ ?_
      · first | omega | assumption | (intros; omega)
      · first | omega | assumption | (intros; omega)
      · intros; omega
      · intro x q1 q2
        rw [f4 x, if_pos ⟨q1, q2⟩]
        show _ = z5 _ x
        unfold z5
        by_cases hx : x < 5
        · rw [if_pos hx, if_pos ⟨q1, hx⟩, zu_row (by decide)]; exact s2 x q1 hx
        · rw [if_neg hx, if_neg (by omega)]
      · intros; rfl
      · omega
    · skip
      refine wp_bipush dd_X11_norm_43 (by decide) ?_
      refine wp_ireturn (st := []) dd_X11_norm_45 rfl ?_
      exact k _ _ (Or.inr ⟨hzA, Or.inl ⟨by omega, rfl, hKn mf (fun _ _ _ _ _ => rfl) (fun _ _ => rfl)⟩⟩)
  · skip
    refine wp_aload_n dd_X11_norm_16 rfl ?_
    refine wp_iload dd_X11_norm_17 rfl ?_
    refine wp_callV (M' := mm_X11_no) (As := [zI (zyA mem a b le v)]) (rest := []) dd_X11_norm_19 lk_X11_120 mV_X11_no kk_67 (zlt rfl) ⟨_, _, rfl⟩ rfl (by decide) (by decide) (Nat.le_of_ble_eq_true rfl) rfl (sp_X11_no  (zyA mem a b le v) (by first | assumption | omega) ?_)
    show zw_Wp l mm_X11_norm (zS L) 22 [some (zR 67), some (zI a), some (zI b), some (zI le), some (zI v), some (zI (zyA mem a b le v)), none, none, none] [zI (zyA mem a b le v)] (zu mem 68 (-(zyA mem a b le v)) (zwr (mem 68 (-(zyA mem a b le v)) + 1))) 0 0 Q
    refine wp_ireturn (st := []) dd_X11_norm_22 rfl ?_
    exact k _ _ (Or.inl ⟨by assumption, rfl, rfl⟩)

