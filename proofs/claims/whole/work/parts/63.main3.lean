/-! ===== norms, hulls, odds, lists asked ===== -/
theorem zmr_cg {p : Int} {f f' h h' : Int → Int} (hf : ∀ x : Int, 0 ≤ x → x < 5 → f x = f' x) (h0 : 0 ≤ zdp f 5) (hh : ∀ x : Int, 0 ≤ x → x < 9 → h x = h' x) : ∀ x : Int, 0 ≤ x → x < 9 → zmr p f h x = zmr p f' h' x := by
  have h1 := zdp_rg f 5
  unfold zmr
  rw [← zdp_cg 5 hf, ← hf (zdp f 5) h0 (by omega)]
  exact zqr_cg ⟨h0, by omega⟩ hf _ _ _ (by omega) hh
theorem zmx_cg {p : Int} {f f' g g' : Int → Int} (hf : ∀ x : Int, 0 ≤ x → x < 5 → f x = f' x) (h0 : 0 ≤ zdp f 5) (hg : ∀ x : Int, 0 ≤ x → x < 5 → g x = g' x) : ∀ (r : Nat) (x : Int), 0 ≤ x → x < 9 → zmx p f g r x = zmx p f' g' r x
  | 0, x, q1, q2 => by
    show z5 g x = z5 g' x
    unfold z5
    by_cases q : 0 ≤ x ∧ x < 5
    · rw [if_pos q, if_pos q, hg x q.1 q.2]
    · rw [if_neg q, if_neg q]
  | r + 1, x, q1, q2 => by
    show zshf (zmr p f (zmx p f g r)) x = zshf (zmr p f' (zmx p f' g' r)) x
    unfold zshf
    by_cases q : 0 < x ∧ x < 9
    · rw [if_pos q, if_pos q]
      exact zmr_cg hf h0 (zmx_cg hf h0 hg r) _ (by omega) (by omega)
    · rw [if_neg q, if_neg q]
theorem znc_cg {p : Int} {f f' g g' : Int → Int} (hf : ∀ x : Int, 0 ≤ x → x < 5 → f x = f' x) (h0 : 0 ≤ zdp f 5) (hg : ∀ x : Int, 0 ≤ x → x < 5 → g x = g' x) (r c k : Int) (hc : 0 ≤ c ∧ c < 9) : znc p f g r c k = znc p f' g' r c k := by
  unfold znc
  by_cases q : k = 0
  · rw [if_pos q, if_pos q]
    exact zmr_cg hf h0 (zmx_cg hf h0 hg r.toNat) c hc.1 hc.2
  · rw [if_neg q, if_neg q]
theorem zcX_pp {e : Int → Int → Int} {p : Int} (h : ∀ x y, e x y = 0 ∨ e x y = 1) (hp : 0 ≤ p) : ∀ n : Nat, 0 ≤ zcX e p n ∧ zcX e p n ≤ p * n
  | 0 => by unfold zcX; omega
  | n + 1 => by
    have h1 := zcX_pp h hp n
    have h2 := zcY_rg (x := n) h p.toNat
    unfold zcX
    have e1 : p * ((n + 1 : Nat) : Int) = p * n + p := by
      rw [show ((n + 1 : Nat) : Int) = n + 1 by omega, Int.mul_add, Int.mul_one]
    omega
def zyU (m : zMem) (q w : Int) : Int := if ¬ (0 ≤ q ∧ q < m 67 5) then -1 else if ¬ (0 ≤ w ∧ w ≤ 1) then -2 else 0
def zod (m : zMem) (q w : Int) : Int := (if w = 0 then zcX (zri (zco m q) (zco m q) (m 67 1)) (m 67 1) (m 67 1).toNat else m 67 1 * m 67 1) / zgcd (zcX (zri (zco m q) (zco m q) (m 67 1)) (m 67 1) (m 67 1).toNat) (m 67 1 * m 67 1)
def zAJ (m m1 : zMem) (r y v : Int) : Prop := (y ≠ 0 ∧ r = 4000000000000000000 - y ∧ m1 = zCn m y) ∨ (y = 0 ∧ r = v ∧ zCk m m1)

set_option maxRecDepth 100000 in
set_option maxHeartbeats 4000000 in
theorem sp_X10_norm {l : Launch} {L : Nat} {mem : zMem} {Q : zQ}  (a : Int) (b : Int) (le : Int) (v : Int) (hI : zInv mem) (k : ∀ (r : Int) (m1 : zMem), (zAn mem m1 r (zyA mem a b le v) (if zdp (zsa (zco mem a) le v (mem 67 1)) 5 < 0 then -9 else zdet (znc (mem 67 1) (zsa (zco mem a) le v (mem 67 1)) (zsa (zco mem b) le v (mem 67 1))) (mem 67 1) (zdp (zsa (zco mem a) le v (mem 67 1)) 5) 0)) → Q (some (zI r)) (zS L) m1) : zw_Ok l mm_X10_norm [zR 0, zI a, zI b, zI le, zI v] (zS L) mem Q := by
  refine zw_okA (fun hA => ?_)
  have rg_a : -2147483648 ≤ a ∧ a < 2147483648 := hA.2.1
  have rg_b : -2147483648 ≤ b ∧ b < 2147483648 := hA.2.2.1
  have rg_le : -2147483648 ≤ le ∧ le < 2147483648 := hA.2.2.2.1
  have rg_v : -2147483648 ≤ v ∧ v < 2147483648 := hA.2.2.2.2.1
  refine zw_enter (by decide) (Nat.le_of_ble_eq_true rfl) rfl ?_
  show zw_Wp l mm_X10_norm (zS L) 0 [some (zR 0), some (zI a), some (zI b), some (zI le), some (zI v), none, none, none] [] mem 0 0 Q
  obtain ⟨I1, I2, I3, I4, I5, I6, I7⟩ := id hI
  have hp := I1.1
  have hpr := hp.rg
  have e10 := I1.2.1
  have hn5 := I1.2.2.1
  have e11 := I1.2.2.2.1
  refine wp_aload_n dd_X10_norm_0 rfl ?_
  refine wp_iload_n dd_X10_norm_1 rfl ?_
  refine wp_iload_n dd_X10_norm_2 rfl ?_
  refine wp_iload_n dd_X10_norm_3 rfl ?_
  refine wp_iload dd_X10_norm_4 rfl ?_
  refine wp_callV (M' := mm_X10_atRefusal) (As := [zI a, zI b, zI le, zI v]) (rest := []) dd_X10_norm_6 lk_X10_223 mV_X10_atRefusal kk_0 (zlt rfl) ⟨_, _, rfl⟩ rfl (by decide) (by decide) (Nat.le_of_ble_eq_true rfl) rfl (sp_X10_atRefusal  a b le v hI ?_)
  show zw_Wp l mm_X10_norm (zS L) 9 [some (zR 0), some (zI a), some (zI b), some (zI le), some (zI v), none, none, none] [zI (zyA mem a b le v)] mem 0 0 Q
  have hyc := zyA_c mem a b le v
  refine wp_istore (ls2 := [some (zR 0), some (zI a), some (zI b), some (zI le), some (zI v), some (zI (zyA mem a b le v)), none, none]) dd_X10_norm_9 rfl (by decide) rfl ?_
  refine wp_iload dd_X10_norm_11 rfl ?_
  refine wp_if_eq (tgt := 23) dd_X10_norm_13 (by decide) (fun c13_1 => ?_) (fun c13_1 => ?_)
  · skip
    have hz : zyB mem a b le 0 = 0 := by omega
    obtain ⟨⟨hia, hib, hl, htb⟩, hna, hnb⟩ := zyB_0 hz
    have hqa : 0 ≤ a ∧ a < 6 := by omega
    have hqb : 0 ≤ b ∧ b < 6 := by omega
    have hTa := I1.T hia.1 hia.2
    have hTb := I1.T hib.1 hib.2
    have hCa := I1.C hia.1 hia.2
    have hCb := I1.C hib.1 hib.2
    have hcra := zco_rg hp hTa
    have hcrb := zco_rg hp hTb
    have dn1 := zdg_nn (c := zco mem a) hl hna
    have dn2 := zdg_nn (c := zco mem b) hl hnb
    have d41 := zdeg_4 (c := zco mem a) hl
    have d42 := zdeg_4 (c := zco mem b) hl
    have hpta : ∀ x y : Int, 0 ≤ zpt (zco mem a) le x y ∧ zpt (zco mem a) le x y < mem 67 1 := fun x y => zpt_rg (by omega) hcra
    have hptb : ∀ x y : Int, 0 ≤ zpt (zco mem b) le x y ∧ zpt (zco mem b) le x y < mem 67 1 := fun x y => zpt_rg (by omega) hcrb
    have hzoa := zo_rg hqa
    have hzob := zo_rg hqb
    refine wp_aload_n dd_X10_norm_23 rfl ?_
    refine wp_getR dd_X10_norm_24 gf_X10_12 rfl kk_0 (by decide) (zlt rfl) rr_0_0 ?_
    refine wp_getZ 0 rfl dd_X10_norm_27 gf_X10_114 rfl kk_1 (by decide) (zlt rfl) ?_
    rw [show (mem 1 0 : Int) = mem 67 1 from e10]
    refine wp_istore (ls2 := [some (zR 0), some (zI a), some (zI b), some (zI le), some (zI v), some (zI (zyA mem a b le v)), some (zI (mem 67 1)), none]) dd_X10_norm_30 rfl (by decide) rfl ?_
    refine wp_aload_n dd_X10_norm_32 rfl ?_
    refine wp_getR dd_X10_norm_33 gf_X10_12 rfl kk_0 (by decide) (zlt rfl) rr_0_0 ?_
    refine wp_getR dd_X10_norm_36 gf_X10_135 rfl kk_1 (by decide) (zlt rfl) rr_1_2 ?_
    refine wp_iload_n dd_X10_norm_39 rfl ?_
    refine wp_aald dd_X10_norm_40 kk_2 (zlt rfl) (by omega) (by omega) (zr2 rfl hqa) ?_
    refine wp_iload_n dd_X10_norm_41 rfl ?_
    refine wp_iload dd_X10_norm_42 rfl ?_
    refine wp_iload dd_X10_norm_44 rfl ?_
    refine wp_aload_n dd_X10_norm_46 rfl ?_
    refine wp_getR dd_X10_norm_47 gf_X10_43 rfl kk_0 (by decide) (zlt rfl) rr_0_5 ?_
    refine wp_getR dd_X10_norm_50 gf_X10_229 rfl kk_53 (by decide) (zlt rfl) rr_53_0 ?_
    refine wp_callV (M' := mm_X4_reduceAt) (As := [zI le, zI v, zI (mem 67 1), zR 54]) (rest := []) dd_X10_norm_53 lk_X10_232 mV_X4_reduceAt (zoP hqa).k (zoP hqa).i ⟨_, _, rfl⟩ rfl (by decide) (by decide) (Nat.le_of_ble_eq_true rfl) rfl (sp_X4_reduceAt  (zo a) le v (mem 67 1) 54 (zoP hqa) kk_54 (zlt rfl) (by omega) hpr (by omega) (fun t q1 q2 => by rw [hCa t q1 q2]; exact hcra t q1 q2) (fun n1 f1 g1 => ?_))
    show zw_Wp l mm_X10_norm (zS L) 56 [some (zR 0), some (zI a), some (zI b), some (zI le), some (zI v), some (zI (zyA mem a b le v)), some (zI (mem 67 1)), none] [] n1 0 0 Q
    have hCb1 : zRw n1 (zo b) (zco mem b) := hCb.keep (g1 _ (by omega))
    refine wp_aload_n dd_X10_norm_56 rfl ?_
    refine wp_getR dd_X10_norm_57 gf_X10_12 rfl kk_0 (by decide) (zlt rfl) rr_0_0 ?_
    refine wp_getR dd_X10_norm_60 gf_X10_135 rfl kk_1 (by decide) (zlt rfl) rr_1_2 ?_
    refine wp_iload_n dd_X10_norm_63 rfl ?_
    refine wp_aald dd_X10_norm_64 kk_2 (zlt rfl) (by omega) (by omega) (zr2 rfl hqb) ?_
    refine wp_iload_n dd_X10_norm_65 rfl ?_
    refine wp_iload dd_X10_norm_66 rfl ?_
    refine wp_iload dd_X10_norm_68 rfl ?_
    refine wp_aload_n dd_X10_norm_70 rfl ?_
    refine wp_getR dd_X10_norm_71 gf_X10_43 rfl kk_0 (by decide) (zlt rfl) rr_0_5 ?_
    refine wp_getR dd_X10_norm_74 gf_X10_236 rfl kk_53 (by decide) (zlt rfl) rr_53_1 ?_
    refine wp_callV (M' := mm_X4_reduceAt) (As := [zI le, zI v, zI (mem 67 1), zR 55]) (rest := []) dd_X10_norm_77 lk_X10_232 mV_X4_reduceAt (zoP hqb).k (zoP hqb).i ⟨_, _, rfl⟩ rfl (by decide) (by decide) (Nat.le_of_ble_eq_true rfl) rfl (sp_X4_reduceAt  (zo b) le v (mem 67 1) 55 (zoP hqb) kk_55 (zlt rfl) (by omega) hpr (by omega) (fun t q1 q2 => by rw [hCb1 t q1 q2]; exact hcrb t q1 q2) (fun n2 f2 g2 => ?_))
    show zw_Wp l mm_X10_norm (zS L) 80 [some (zR 0), some (zI a), some (zI b), some (zI le), some (zI v), some (zI (zyA mem a b le v)), some (zI (mem 67 1)), none] [] n2 0 0 Q
    have r54 : ∀ x : Int, 0 ≤ x → x < 5 → n2 54 x = (zsa (zco mem a) le v (mem 67 1)) x := fun x q1 q2 => by
      rw [g2 54 (by decide), f1 x q1 q2]
      unfold zsa
      congr 1
      funext y
      exact hCa.pt le x y
    have r55 : ∀ x : Int, 0 ≤ x → x < 5 → n2 55 x = (zsa (zco mem b) le v (mem 67 1)) x := fun x q1 q2 => by
      rw [f2 x q1 q2]
      unfold zsa
      congr 1
      funext y
      exact hCb1.pt le x y
    have gE := zdp_rg (zsa (zco mem a) le v (mem 67 1)) 5
    refine wp_aload_n dd_X10_norm_80 rfl ?_
    refine wp_getR dd_X10_norm_81 gf_X10_43 rfl kk_0 (by decide) (zlt rfl) rr_0_5 ?_
    refine wp_getR dd_X10_norm_84 gf_X10_229 rfl kk_53 (by decide) (zlt rfl) rr_53_0 ?_
    refine wp_callS (M' := mm_X2_degreeOf) (As := [zR 54]) (rest := []) dd_X10_norm_87 lk_X10_203 mS_X2_degreeOf rfl (by decide) (by decide) (Nat.le_of_ble_eq_true rfl) rfl (sp_X2_degreeOf  54 kk_54 (zlt rfl) (by decide) (fun d1 hd1 => ?_))
    show zw_Wp l mm_X10_norm (zS L) 90 [some (zR 0), some (zI a), some (zI b), some (zI le), some (zI v), some (zI (zyA mem a b le v)), some (zI (mem 67 1)), none] [zI d1] n2 0 0 Q
    have e1 := (zdp_un hd1).trans (zd9_cg r54)
    have c1 := zd9_c (zsa (zco mem a) le v (mem 67 1))
    refine wp_istore (ls2 := [some (zR 0), some (zI a), some (zI b), some (zI le), some (zI v), some (zI (zyA mem a b le v)), some (zI (mem 67 1)), some (zI d1)]) dd_X10_norm_90 rfl (by decide) rfl ?_
    refine wp_iload dd_X10_norm_92 rfl ?_
    refine wp_if_ge (tgt := 100) dd_X10_norm_94 (by decide) (fun c94_2 => ?_) (fun c94_2 => ?_)
    · skip
      refine wp_aload_n dd_X10_norm_100 rfl ?_
      refine wp_getR dd_X10_norm_101 gf_X10_36 rfl kk_0 (by decide) (zlt rfl) rr_0_4 ?_
      refine wp_iload dd_X10_norm_104 rfl ?_
      refine wp_iconst dd_X10_norm_106 (zr_lit rfl) ?_
      refine wp_callV (M' := mm_X9_clear) (As := [zI d1, zI 0]) (rest := []) dd_X10_norm_107 lk_X10_239 mV_X9_clear kk_48 (zlt rfl) ⟨_, _, rfl⟩ rfl (by decide) (by decide) (Nat.le_of_ble_eq_true rfl) rfl (sp_X9_clear  d1 0  (fun n3 s3 f3 g3 => ?_))
      show zw_Wp l mm_X10_norm (zS L) 110 [some (zR 0), some (zI a), some (zI b), some (zI le), some (zI v), some (zI (zyA mem a b le v)), some (zI (mem 67 1)), some (zI d1)] [] n3 0 0 Q
      refine wp_aload_n dd_X10_norm_110 rfl ?_
      refine wp_getR dd_X10_norm_111 gf_X10_43 rfl kk_0 (by decide) (zlt rfl) rr_0_5 ?_
      refine wp_aload_n dd_X10_norm_114 rfl ?_
      refine wp_getR dd_X10_norm_115 gf_X10_36 rfl kk_0 (by decide) (zlt rfl) rr_0_4 ?_
      refine wp_iload dd_X10_norm_118 rfl ?_
      refine wp_iload dd_X10_norm_120 rfl ?_
      refine wp_callV (M' := mm_X0_layMultiples) (As := [zR 48, zI d1, zI (mem 67 1)]) (rest := []) dd_X10_norm_122 lk_X10_243 mV_X0_layMultiples kk_53 (zlt rfl) ⟨_, _, rfl⟩ rfl (by decide) (by decide) (Nat.le_of_ble_eq_true rfl) rfl (sp_X0_layMultiples  d1 (mem 67 1) hp (fun x q1 q2 => by rw [g3 54 (by decide) (by decide), r54 x q1 q2]; exact zsa_rg (by omega) x) (fun x q1 q2 => by rw [g3 55 (by decide) (by decide), r55 x q1 q2]; exact zsa_rg (by omega) x) ⟨by omega, by rw [g3 54 (by decide) (by decide), zdp_cg 5 r54]; omega⟩ f3 (fun n4 f4 g4 => ?_))
      show zw_Wp l mm_X10_norm (zS L) 125 [some (zR 0), some (zI a), some (zI b), some (zI le), some (zI v), some (zI (zyA mem a b le v)), some (zI (mem 67 1)), some (zI d1)] [] n4 0 0 Q
      rw [g3 54 (by decide) (by decide), g3 55 (by decide) (by decide)] at f4
      have hde : d1 = zdp (zsa (zco mem a) le v (mem 67 1)) 5 := by omega
      have f5 : zTc n4 d1 (znc (mem 67 1) (zsa (zco mem a) le v (mem 67 1)) (zsa (zco mem b) le v (mem 67 1))) := fun r9 c9 k9 q1 q2 q3 => by rw [f4 r9 c9 k9 q1 q2 q3]; exact znc_cg r54 (by rw [zdp_cg 5 r54]; omega) r55 r9 c9 k9 (by omega)
      refine wp_aload_n dd_X10_norm_125 rfl ?_
      refine wp_getR dd_X10_norm_126 gf_X10_36 rfl kk_0 (by decide) (zlt rfl) rr_0_4 ?_
      refine wp_iload dd_X10_norm_129 rfl ?_
      refine wp_callV (M' := mm_X9_expand) (As := [zI (mem 67 1)]) (rest := []) dd_X10_norm_131 lk_X10_247 mV_X9_expand kk_48 (zlt rfl) ⟨_, _, rfl⟩ rfl (by decide) (by decide) (Nat.le_of_ble_eq_true rfl) rfl (sp_X9_expand (znc (mem 67 1) (zsa (zco mem a) le v (mem 67 1)) (zsa (zco mem b) le v (mem 67 1))) d1 0 (mem 67 1) hpr ⟨by rw [g4 48 (by decide) (by decide), s3.1]; omega, by omega, by omega⟩ ⟨by rw [g4 48 (by decide) (by decide)]; exact s3.2.1, by decide, by decide, by rw [Int.mul_zero]; decide⟩ f5 (znc_rg (by omega) (by omega) (fun y => zsa_rg (by omega) y)) (fun r9 c9 k9 q1 q2 q3 q4 => by unfold znc; rw [if_neg (by omega)]) (fun n5 f6 g6 => ?_))
      show zw_Wp l mm_X10_norm (zS L) 134 [some (zR 0), some (zI a), some (zI b), some (zI le), some (zI v), some (zI (zyA mem a b le v)), some (zI (mem 67 1)), some (zI d1)] [] n5 0 0 Q
      refine wp_aload_n dd_X10_norm_134 rfl ?_
      refine wp_getR dd_X10_norm_135 gf_X10_36 rfl kk_0 (by decide) (zlt rfl) rr_0_4 ?_
      refine wp_getR dd_X10_norm_138 gf_X10_200 rfl kk_48 (by decide) (zlt rfl) rr_48_0 ?_
      refine wp_iconst dd_X10_norm_141 (zr_lit rfl) ?_
      refine wp_iald dd_X10_norm_142 kk_49 (zlt rfl) (by omega) (by omega) ?_
      refine wp_ireturn (st := []) dd_X10_norm_143 rfl ?_
      refine k _ _ (Or.inr ⟨by assumption, ?_, fun x hx => ?_⟩)
      · rw [if_neg (by omega), f6 0 (by decide) (by decide), hde]
      · rw [g6 x (by omega) (by omega) (by omega), g4 x (by omega) (by omega), g3 x (by omega) (by omega), g2 x (by omega), g1 x (by omega)]
    · skip
      refine wp_bipush dd_X10_norm_97 (by decide) ?_
      refine wp_ireturn (st := []) dd_X10_norm_99 rfl ?_
      exact k _ _ (Or.inr ⟨by assumption, by rw [if_pos (by omega)], fun x hx => by rw [g2 x (by omega), g1 x (by omega)]⟩)
  · skip
    refine wp_aload_n dd_X10_norm_16 rfl ?_
    refine wp_iload dd_X10_norm_17 rfl ?_
    refine wp_callV (M' := mm_X10_refuse) (As := [zI (zyA mem a b le v)]) (rest := []) dd_X10_norm_19 lk_X10_76 mV_X10_refuse kk_0 (zlt rfl) ⟨_, _, rfl⟩ rfl (by decide) (by decide) (Nat.le_of_ble_eq_true rfl) rfl (sp_X10_refuse  (zyA mem a b le v) (by first | assumption | omega) ?_)
    show zw_Wp l mm_X10_norm (zS L) 22 [some (zR 0), some (zI a), some (zI b), some (zI le), some (zI v), some (zI (zyA mem a b le v)), none, none] [zI (zyA mem a b le v)] (zCn mem (zyA mem a b le v)) 0 0 Q
    refine wp_ireturn (st := []) dd_X10_norm_22 rfl ?_
    exact k _ _ (Or.inl ⟨by assumption, rfl, rfl⟩)

theorem zyB_qq (m : zMem) (q : Int) : zyB m q q 0 0 = zyD m q := by
  unfold zyB zyD
  omega
theorem zyC_D (m : zMem) (q k : Int) : zyC m q k = if zyD m q ≠ 0 then zyD m q else if k < 0 then -4 else 0 := by
  unfold zyC zyD
  omega
theorem zyD_c (m : zMem) (q : Int) : zyD m q = 0 ∨ (-3 ≤ zyD m q ∧ zyD m q ≤ -1) := by
  rw [← zyB_qq]
  have := zyB_c m q q 0 0
  omega
set_option maxRecDepth 100000 in
set_option maxHeartbeats 4000000 in
theorem sp_X10_corner {l : Launch} {L : Nat} {mem : zMem} {Q : zQ}  (q : Int) (k0 : Int) (hI : zInv mem) (k : ∀ (r : Int) (m1 : zMem) (f : Int → Int) (n : Int), (zAn mem m1 r (zyC mem q k0) (zcr f n k0)) → (zyC mem q k0 = 0 → zHu (zP1 (zco mem q)) f n) → Q (some (zI r)) (zS L) m1) : zw_Ok l mm_X10_corner [zR 0, zI q, zI k0] (zS L) mem Q := by
  refine zw_okA (fun hA => ?_)
  have rg_q : -2147483648 ≤ q ∧ q < 2147483648 := hA.2.1
  have rg_k0 : -2147483648 ≤ k0 ∧ k0 < 2147483648 := hA.2.2.1
  refine zw_enter (by decide) (Nat.le_of_ble_eq_true rfl) rfl ?_
  show zw_Wp l mm_X10_corner (zS L) 0 [some (zR 0), some (zI q), some (zI k0), none] [] mem 0 0 Q
  obtain ⟨I1, I2, I3, I4, I5, I6, I7⟩ := id hI
  have hp := I1.1
  have hpr := hp.rg
  have e10 := I1.2.1
  have hn5 := I1.2.2.1
  have e11 := I1.2.2.2.1
  refine wp_aload_n dd_X10_corner_0 rfl ?_
  refine wp_iload_n dd_X10_corner_1 rfl ?_
  refine wp_iload_n dd_X10_corner_2 rfl ?_
  refine wp_callV (M' := mm_X10_polygonRefusal) (As := [zI q, zI q]) (rest := []) dd_X10_corner_3 lk_X10_278 mV_X10_polygonRefusal kk_0 (zlt rfl) ⟨_, _, rfl⟩ rfl (by decide) (by decide) (Nat.le_of_ble_eq_true rfl) rfl (sp_X10_polygonRefusal  q q hI ?_)
  show zw_Wp l mm_X10_corner (zS L) 6 [some (zR 0), some (zI q), some (zI k0), none] [zI (zyB mem q q 0 0)] mem 0 0 Q
  rw [zyB_qq]
  have hyc := zyD_c mem q
  have hyC := zyC_D mem q k0
  refine wp_istore_n (ls2 := [some (zR 0), some (zI q), some (zI k0), some (zI (zyD mem q))]) dd_X10_corner_6 rfl (by decide) rfl ?_
  refine wp_iload_n dd_X10_corner_7 rfl ?_
  refine wp_if_eq (tgt := 17) dd_X10_corner_8 (by decide) (fun c8_1 => ?_) (fun c8_1 => ?_)
  · skip
    refine wp_iload_n dd_X10_corner_17 rfl ?_
    refine wp_if_ge (tgt := 28) dd_X10_corner_18 (by decide) (fun c18_2 => ?_) (fun c18_2 => ?_)
    · skip
      have hz : zyB mem q q 0 0 = 0 := by rw [zyB_qq]; omega
      obtain ⟨⟨hia, hib, hl, htb⟩, hna, hnb⟩ := zyB_0 hz
      have hqq : 0 ≤ q ∧ q < 6 := by omega
      have hTq := I1.T (q := q) (by omega) (by omega)
      have hCq := I1.C (q := q) (by omega) (by omega)
      have hcrq := zco_rg hp hTq
      have hzoq := zo_rg hqq
      refine wp_aload_n dd_X10_corner_28 rfl ?_
      refine wp_getR dd_X10_corner_29 gf_X10_50 rfl kk_0 (by decide) (zlt rfl) rr_0_6 ?_
      refine wp_aload_n dd_X10_corner_32 rfl ?_
      refine wp_getR dd_X10_corner_33 gf_X10_12 rfl kk_0 (by decide) (zlt rfl) rr_0_0 ?_
      refine wp_getR dd_X10_corner_36 gf_X10_135 rfl kk_1 (by decide) (zlt rfl) rr_1_2 ?_
      refine wp_iload_n dd_X10_corner_39 rfl ?_
      refine wp_aald dd_X10_corner_40 kk_2 (zlt rfl) (by omega) (by omega) (zr2 rfl hqq) ?_
      refine wp_callV (M' := mm_X5_ofOne) (As := [zR (zo q)]) (rest := []) dd_X10_corner_41 lk_X10_282 mV_X5_ofOne kk_57 (zlt rfl) ⟨_, _, rfl⟩ rfl (by decide) (by decide) (Nat.le_of_ble_eq_true rfl) rfl (sp_X5_ofOne (zco mem q) (zo q) (zoP hqq) hCq hna (fun ff nn mh H1 C1 g1 => ?_))
      show zw_Wp l mm_X10_corner (zS L) 44 [some (zR 0), some (zI q), some (zI k0), some (zI (zyD mem q))] [] mh 0 0 Q
      refine wp_aload_n dd_X10_corner_44 rfl ?_
      refine wp_getR dd_X10_corner_45 gf_X10_50 rfl kk_0 (by decide) (zlt rfl) rr_0_6 ?_
      refine wp_iload_n dd_X10_corner_48 rfl ?_
      refine wp_callV (M' := mm_X5_cornerCode) (As := [zI k0]) (rest := []) dd_X10_corner_49 lk_X10_286 mV_X5_cornerCode kk_57 (zlt rfl) ⟨_, _, rfl⟩ rfl (by decide) (by decide) (Nat.le_of_ble_eq_true rfl) rfl (sp_X5_cornerCode ff nn k0 C1 (by omega) ?_)
      show zw_Wp l mm_X10_corner (zS L) 52 [some (zR 0), some (zI q), some (zI k0), some (zI (zyD mem q))] [zI (zcr ff nn k0)] mh 0 0 Q
      refine wp_ireturn (st := []) dd_X10_corner_52 rfl ?_
      have hw : zyC mem q k0 = 0 := by rw [hyC]; (repeat first | rw [if_pos (by omega)] | rw [if_neg (by omega)]); try omega
      exact k _ _ ff nn (Or.inr ⟨hw, rfl, fun x hx => g1 x (by omega) (by omega) (by omega)⟩) (fun _ => H1)
    · skip
      refine wp_aload_n dd_X10_corner_21 rfl ?_
      refine wp_bipush dd_X10_corner_22 (by decide) ?_
      refine wp_callV (M' := mm_X10_refuse) (As := [zI (-4)]) (rest := []) dd_X10_corner_24 lk_X10_76 mV_X10_refuse kk_0 (zlt rfl) ⟨_, _, rfl⟩ rfl (by decide) (by decide) (Nat.le_of_ble_eq_true rfl) rfl (sp_X10_refuse  (-4) (by first | assumption | omega) ?_)
      show zw_Wp l mm_X10_corner (zS L) 27 [some (zR 0), some (zI q), some (zI k0), some (zI (zyD mem q))] [zI (-4)] (zCn mem (-4)) 0 0 Q
      refine wp_ireturn (st := []) dd_X10_corner_27 rfl ?_
      have hw : zyC mem q k0 = (-4) := by rw [hyC]; (repeat first | rw [if_pos (by omega)] | rw [if_neg (by omega)]); try omega
      exact k _ _ (fun _ => 0) 0 (Or.inl ⟨by rw [hw]; first | decide | omega, hw.symm, by rw [hw]⟩) (fun z9 => by rw [hw] at z9; omega)
  · skip
    refine wp_aload_n dd_X10_corner_11 rfl ?_
    refine wp_iload_n dd_X10_corner_12 rfl ?_
    refine wp_callV (M' := mm_X10_refuse) (As := [zI (zyD mem q)]) (rest := []) dd_X10_corner_13 lk_X10_76 mV_X10_refuse kk_0 (zlt rfl) ⟨_, _, rfl⟩ rfl (by decide) (by decide) (Nat.le_of_ble_eq_true rfl) rfl (sp_X10_refuse  (zyD mem q) (by first | assumption | omega) ?_)
    show zw_Wp l mm_X10_corner (zS L) 16 [some (zR 0), some (zI q), some (zI k0), some (zI (zyD mem q))] [zI (zyD mem q)] (zCn mem (zyD mem q)) 0 0 Q
    refine wp_ireturn (st := []) dd_X10_corner_16 rfl ?_
    have hw : zyC mem q k0 = (zyD mem q) := by rw [hyC]; (repeat first | rw [if_pos (by omega)] | rw [if_neg (by omega)]); try omega
    exact k _ _ (fun _ => 0) 0 (Or.inl ⟨by rw [hw]; first | decide | omega, hw.symm, by rw [hw]⟩) (fun z9 => by rw [hw] at z9; omega)

set_option maxRecDepth 100000 in
set_option maxHeartbeats 4000000 in
theorem sp_X10_area {l : Launch} {L : Nat} {mem : zMem} {Q : zQ}  (q : Int) (hI : zInv mem) (k : ∀ (r : Int) (m1 : zMem) (f : Int → Int) (n : Int), (zAn mem m1 r (zyD mem q) (zar f (n - 2).toNat)) → (zyD mem q = 0 → zHu (zP1 (zco mem q)) f n) → Q (some (zI r)) (zS L) m1) : zw_Ok l mm_X10_area [zR 0, zI q] (zS L) mem Q := by
  refine zw_okA (fun hA => ?_)
  have rg_q : -2147483648 ≤ q ∧ q < 2147483648 := hA.2.1
  refine zw_enter (by decide) (Nat.le_of_ble_eq_true rfl) rfl ?_
  show zw_Wp l mm_X10_area (zS L) 0 [some (zR 0), some (zI q), none] [] mem 0 0 Q
  obtain ⟨I1, I2, I3, I4, I5, I6, I7⟩ := id hI
  have hp := I1.1
  have hpr := hp.rg
  have e10 := I1.2.1
  have hn5 := I1.2.2.1
  have e11 := I1.2.2.2.1
  refine wp_aload_n dd_X10_area_0 rfl ?_
  refine wp_iload_n dd_X10_area_1 rfl ?_
  refine wp_iload_n dd_X10_area_2 rfl ?_
  refine wp_callV (M' := mm_X10_polygonRefusal) (As := [zI q, zI q]) (rest := []) dd_X10_area_3 lk_X10_278 mV_X10_polygonRefusal kk_0 (zlt rfl) ⟨_, _, rfl⟩ rfl (by decide) (by decide) (Nat.le_of_ble_eq_true rfl) rfl (sp_X10_polygonRefusal  q q hI ?_)
  show zw_Wp l mm_X10_area (zS L) 6 [some (zR 0), some (zI q), none] [zI (zyB mem q q 0 0)] mem 0 0 Q
  rw [zyB_qq]
  have hyc := zyD_c mem q
  refine wp_istore_n (ls2 := [some (zR 0), some (zI q), some (zI (zyD mem q))]) dd_X10_area_6 rfl (by decide) rfl ?_
  refine wp_iload_n dd_X10_area_7 rfl ?_
  refine wp_if_eq (tgt := 17) dd_X10_area_8 (by decide) (fun c8_1 => ?_) (fun c8_1 => ?_)
  · skip
    have hz : zyB mem q q 0 0 = 0 := by rw [zyB_qq]; omega
    obtain ⟨⟨hia, hib, hl, htb⟩, hna, hnb⟩ := zyB_0 hz
    have hqq : 0 ≤ q ∧ q < 6 := by omega
    have hTq := I1.T (q := q) (by omega) (by omega)
    have hCq := I1.C (q := q) (by omega) (by omega)
    have hcrq := zco_rg hp hTq
    have hzoq := zo_rg hqq
    refine wp_aload_n dd_X10_area_17 rfl ?_
    refine wp_getR dd_X10_area_18 gf_X10_50 rfl kk_0 (by decide) (zlt rfl) rr_0_6 ?_
    refine wp_aload_n dd_X10_area_21 rfl ?_
    refine wp_getR dd_X10_area_22 gf_X10_12 rfl kk_0 (by decide) (zlt rfl) rr_0_0 ?_
    refine wp_getR dd_X10_area_25 gf_X10_135 rfl kk_1 (by decide) (zlt rfl) rr_1_2 ?_
    refine wp_iload_n dd_X10_area_28 rfl ?_
    refine wp_aald dd_X10_area_29 kk_2 (zlt rfl) (by omega) (by omega) (zr2 rfl hqq) ?_
    refine wp_callV (M' := mm_X5_ofOne) (As := [zR (zo q)]) (rest := []) dd_X10_area_30 lk_X10_282 mV_X5_ofOne kk_57 (zlt rfl) ⟨_, _, rfl⟩ rfl (by decide) (by decide) (Nat.le_of_ble_eq_true rfl) rfl (sp_X5_ofOne (zco mem q) (zo q) (zoP hqq) hCq hna (fun ff nn mh H1 C1 g1 => ?_))
    show zw_Wp l mm_X10_area (zS L) 33 [some (zR 0), some (zI q), some (zI (zyD mem q))] [] mh 0 0 Q
    refine wp_aload_n dd_X10_area_33 rfl ?_
    refine wp_getR dd_X10_area_34 gf_X10_50 rfl kk_0 (by decide) (zlt rfl) rr_0_6 ?_
    refine wp_callV (M' := mm_X5_twiceCovered) (As := []) (rest := []) dd_X10_area_37 lk_X10_289 mV_X5_twiceCovered kk_57 (zlt rfl) ⟨_, _, rfl⟩ rfl (by decide) (by decide) (Nat.le_of_ble_eq_true rfl) rfl (sp_X5_twiceCovered ff nn  C1 ?_)
    show zw_Wp l mm_X10_area (zS L) 40 [some (zR 0), some (zI q), some (zI (zyD mem q))] [zI (zar ff (nn - 2).toNat)] mh 0 0 Q
    refine wp_ireturn (st := []) dd_X10_area_40 rfl ?_
    exact k _ _ ff nn (Or.inr ⟨by assumption, rfl, fun x hx => g1 x (by omega) (by omega) (by omega)⟩) (fun _ => H1)
  · skip
    refine wp_aload_n dd_X10_area_11 rfl ?_
    refine wp_iload_n dd_X10_area_12 rfl ?_
    refine wp_callV (M' := mm_X10_refuse) (As := [zI (zyD mem q)]) (rest := []) dd_X10_area_13 lk_X10_76 mV_X10_refuse kk_0 (zlt rfl) ⟨_, _, rfl⟩ rfl (by decide) (by decide) (Nat.le_of_ble_eq_true rfl) rfl (sp_X10_refuse  (zyD mem q) (by first | assumption | omega) ?_)
    show zw_Wp l mm_X10_area (zS L) 16 [some (zR 0), some (zI q), some (zI (zyD mem q))] [zI (zyD mem q)] (zCn mem (zyD mem q)) 0 0 Q
    refine wp_ireturn (st := []) dd_X10_area_16 rfl ?_
    exact k _ _ (fun _ => 0) 0 (Or.inl ⟨by assumption, rfl, rfl⟩) (fun z9 => absurd z9 (by assumption))

set_option maxRecDepth 100000 in
set_option maxHeartbeats 4000000 in
theorem sp_X10_sum {l : Launch} {L : Nat} {mem : zMem} {Q : zQ}  (a : Int) (b : Int) (k0 : Int) (hI : zInv mem) (k : ∀ (r : Int) (m1 : zMem) (f : Int → Int) (n : Int), (zAn mem m1 r (zyS mem a b k0) (if k0 < 0 then zar f (n - 2).toNat else zcr f n k0)) → (zyS mem a b k0 = 0 → zHu (zP2 (zco mem a) (zco mem b)) f n) → Q (some (zI r)) (zS L) m1) : zw_Ok l mm_X10_sum [zR 0, zI a, zI b, zI k0] (zS L) mem Q := by
  refine zw_okA (fun hA => ?_)
  have rg_a : -2147483648 ≤ a ∧ a < 2147483648 := hA.2.1
  have rg_b : -2147483648 ≤ b ∧ b < 2147483648 := hA.2.2.1
  have rg_k0 : -2147483648 ≤ k0 ∧ k0 < 2147483648 := hA.2.2.2.1
  refine zw_enter (by decide) (Nat.le_of_ble_eq_true rfl) rfl ?_
  show zw_Wp l mm_X10_sum (zS L) 0 [some (zR 0), some (zI a), some (zI b), some (zI k0), none] [] mem 0 0 Q
  obtain ⟨I1, I2, I3, I4, I5, I6, I7⟩ := id hI
  have hp := I1.1
  have hpr := hp.rg
  have e10 := I1.2.1
  have hn5 := I1.2.2.1
  have e11 := I1.2.2.2.1
  refine wp_aload_n dd_X10_sum_0 rfl ?_
  refine wp_iload_n dd_X10_sum_1 rfl ?_
  refine wp_iload_n dd_X10_sum_2 rfl ?_
  refine wp_callV (M' := mm_X10_polygonRefusal) (As := [zI a, zI b]) (rest := []) dd_X10_sum_3 lk_X10_278 mV_X10_polygonRefusal kk_0 (zlt rfl) ⟨_, _, rfl⟩ rfl (by decide) (by decide) (Nat.le_of_ble_eq_true rfl) rfl (sp_X10_polygonRefusal  a b hI ?_)
  show zw_Wp l mm_X10_sum (zS L) 6 [some (zR 0), some (zI a), some (zI b), some (zI k0), none] [zI (zyB mem a b 0 0)] mem 0 0 Q
  have hyc := zyB_c mem a b 0 0
  refine wp_istore (ls2 := [some (zR 0), some (zI a), some (zI b), some (zI k0), some (zI (zyB mem a b 0 0))]) dd_X10_sum_6 rfl (by decide) rfl ?_
  refine wp_iload dd_X10_sum_8 rfl ?_
  refine wp_if_eq (tgt := 20) dd_X10_sum_10 (by decide) (fun c10_1 => ?_) (fun c10_1 => ?_)
  · skip
    refine wp_iload_n dd_X10_sum_20 rfl ?_
    refine wp_iconst dd_X10_sum_21 (zr_lit rfl) ?_
    refine wp_icmp_ge (tgt := 32) dd_X10_sum_22 (by decide) (fun c22_2 => ?_) (fun c22_2 => ?_)
    · skip
      have hz : zyB mem a b 0 0 = 0 := by omega
      obtain ⟨⟨hia, hib, hl, htb⟩, hna, hnb⟩ := zyB_0 hz
      have hqa : 0 ≤ a ∧ a < 6 := by omega
      have hqb : 0 ≤ b ∧ b < 6 := by omega
      have hTa := I1.T (q := a) (by omega) (by omega)
      have hTb := I1.T (q := b) (by omega) (by omega)
      have hCa := I1.C (q := a) (by omega) (by omega)
      have hCb := I1.C (q := b) (by omega) (by omega)
      have hcra := zco_rg hp hTa
      have hcrb := zco_rg hp hTb
      have hzoa := zo_rg hqa
      have hzob := zo_rg hqb
      refine wp_aload_n dd_X10_sum_32 rfl ?_
      refine wp_getR dd_X10_sum_33 gf_X10_50 rfl kk_0 (by decide) (zlt rfl) rr_0_6 ?_
      refine wp_aload_n dd_X10_sum_36 rfl ?_
      refine wp_getR dd_X10_sum_37 gf_X10_12 rfl kk_0 (by decide) (zlt rfl) rr_0_0 ?_
      refine wp_getR dd_X10_sum_40 gf_X10_135 rfl kk_1 (by decide) (zlt rfl) rr_1_2 ?_
      refine wp_iload_n dd_X10_sum_43 rfl ?_
      refine wp_aald dd_X10_sum_44 kk_2 (zlt rfl) (by omega) (by omega) (zr2 rfl hqa) ?_
      refine wp_aload_n dd_X10_sum_45 rfl ?_
      refine wp_getR dd_X10_sum_46 gf_X10_12 rfl kk_0 (by decide) (zlt rfl) rr_0_0 ?_
      refine wp_getR dd_X10_sum_49 gf_X10_135 rfl kk_1 (by decide) (zlt rfl) rr_1_2 ?_
      refine wp_iload_n dd_X10_sum_52 rfl ?_
      refine wp_aald dd_X10_sum_53 kk_2 (zlt rfl) (by omega) (by omega) (zr2 rfl hqb) ?_
      refine wp_callV (M' := mm_X5_ofTwo) (As := [zR (zo a), zR (zo b)]) (rest := []) dd_X10_sum_54 lk_X10_292 mV_X5_ofTwo kk_57 (zlt rfl) ⟨_, _, rfl⟩ rfl (by decide) (by decide) (Nat.le_of_ble_eq_true rfl) rfl (sp_X5_ofTwo (zco mem a) (zco mem b) (zo a) (zo b) (zoP hqa) (zoP hqb) hCa hCb hna hnb (fun ff nn mh H1 C1 g1 => ?_))
      show zw_Wp l mm_X10_sum (zS L) 57 [some (zR 0), some (zI a), some (zI b), some (zI k0), some (zI (zyB mem a b 0 0))] [] mh 0 0 Q
      refine wp_iload_n dd_X10_sum_57 rfl ?_
      refine wp_iconst dd_X10_sum_58 (zr_lit rfl) ?_
      refine wp_icmp_ne (tgt := 72) dd_X10_sum_59 (by decide) (fun c59_3 => ?_) (fun c59_3 => ?_)
      · skip
        refine wp_aload_n dd_X10_sum_72 rfl ?_
        refine wp_getR dd_X10_sum_73 gf_X10_50 rfl kk_0 (by decide) (zlt rfl) rr_0_6 ?_
        refine wp_iload_n dd_X10_sum_76 rfl ?_
        refine wp_callV (M' := mm_X5_cornerCode) (As := [zI k0]) (rest := []) dd_X10_sum_77 lk_X10_286 mV_X5_cornerCode kk_57 (zlt rfl) ⟨_, _, rfl⟩ rfl (by decide) (by decide) (Nat.le_of_ble_eq_true rfl) rfl (sp_X5_cornerCode ff nn k0 C1 (by omega) ?_)
        show zw_Wp l mm_X10_sum (zS L) 80 [some (zR 0), some (zI a), some (zI b), some (zI k0), some (zI (zyB mem a b 0 0))] [zI (zcr ff nn k0)] mh 0 0 Q
        refine wp_ireturn (st := []) dd_X10_sum_80 rfl ?_
        have hw : zyS mem a b k0 = 0 := by unfold zyS; (repeat first | rw [if_pos (by omega)] | rw [if_neg (by omega)]); try omega
        refine k _ _ ff nn (Or.inr ⟨hw, ?_, fun x hx => g1 x (by omega) (by omega) (by omega)⟩) (fun _ => H1)
        first | rw [if_pos (show k0 < 0 by omega)] | rw [if_neg (show ¬ k0 < 0 by omega)]
      · skip
        refine wp_aload_n dd_X10_sum_62 rfl ?_
        refine wp_getR dd_X10_sum_63 gf_X10_50 rfl kk_0 (by decide) (zlt rfl) rr_0_6 ?_
        refine wp_callV (M' := mm_X5_twiceCovered) (As := []) (rest := []) dd_X10_sum_66 lk_X10_289 mV_X5_twiceCovered kk_57 (zlt rfl) ⟨_, _, rfl⟩ rfl (by decide) (by decide) (Nat.le_of_ble_eq_true rfl) rfl (sp_X5_twiceCovered ff nn  C1 ?_)
        show zw_Wp l mm_X10_sum (zS L) 69 [some (zR 0), some (zI a), some (zI b), some (zI k0), some (zI (zyB mem a b 0 0))] [zI (zar ff (nn - 2).toNat)] mh 0 0 Q
        refine wp_goto (tgt := 80) dd_X10_sum_69 (by decide) ?_
        refine wp_ireturn (st := []) dd_X10_sum_80 rfl ?_
        have hw : zyS mem a b k0 = 0 := by unfold zyS; (repeat first | rw [if_pos (by omega)] | rw [if_neg (by omega)]); try omega
        refine k _ _ ff nn (Or.inr ⟨hw, ?_, fun x hx => g1 x (by omega) (by omega) (by omega)⟩) (fun _ => H1)
        first | rw [if_pos (show k0 < 0 by omega)] | rw [if_neg (show ¬ k0 < 0 by omega)]
    · skip
      refine wp_aload_n dd_X10_sum_25 rfl ?_
      refine wp_bipush dd_X10_sum_26 (by decide) ?_
      refine wp_callV (M' := mm_X10_refuse) (As := [zI (-4)]) (rest := []) dd_X10_sum_28 lk_X10_76 mV_X10_refuse kk_0 (zlt rfl) ⟨_, _, rfl⟩ rfl (by decide) (by decide) (Nat.le_of_ble_eq_true rfl) rfl (sp_X10_refuse  (-4) (by first | assumption | omega) ?_)
      show zw_Wp l mm_X10_sum (zS L) 31 [some (zR 0), some (zI a), some (zI b), some (zI k0), some (zI (zyB mem a b 0 0))] [zI (-4)] (zCn mem (-4)) 0 0 Q
      refine wp_ireturn (st := []) dd_X10_sum_31 rfl ?_
      have hw : zyS mem a b k0 = (-4) := by unfold zyS; (repeat first | rw [if_pos (by omega)] | rw [if_neg (by omega)]); try omega
      exact k _ _ (fun _ => 0) 0 (Or.inl ⟨by rw [hw]; first | decide | omega, hw.symm, by rw [hw]⟩) (fun z9 => by rw [hw] at z9; omega)
  · skip
    refine wp_aload_n dd_X10_sum_13 rfl ?_
    refine wp_iload dd_X10_sum_14 rfl ?_
    refine wp_callV (M' := mm_X10_refuse) (As := [zI (zyB mem a b 0 0)]) (rest := []) dd_X10_sum_16 lk_X10_76 mV_X10_refuse kk_0 (zlt rfl) ⟨_, _, rfl⟩ rfl (by decide) (by decide) (Nat.le_of_ble_eq_true rfl) rfl (sp_X10_refuse  (zyB mem a b 0 0) (by first | assumption | omega) ?_)
    show zw_Wp l mm_X10_sum (zS L) 19 [some (zR 0), some (zI a), some (zI b), some (zI k0), some (zI (zyB mem a b 0 0))] [zI (zyB mem a b 0 0)] (zCn mem (zyB mem a b 0 0)) 0 0 Q
    refine wp_ireturn (st := []) dd_X10_sum_19 rfl ?_
    have hw : zyS mem a b k0 = (zyB mem a b 0 0) := by unfold zyS; (repeat first | rw [if_pos (by omega)] | rw [if_neg (by omega)]); try omega
    exact k _ _ (fun _ => 0) 0 (Or.inl ⟨by rw [hw]; first | decide | omega, hw.symm, by rw [hw]⟩) (fun z9 => by rw [hw] at z9; omega)

set_option maxRecDepth 100000 in
set_option maxHeartbeats 4000000 in
theorem sp_X10_mixed {l : Launch} {L : Nat} {mem : zMem} {Q : zQ}  (a : Int) (b : Int) (hI : zInv mem) (k : ∀ (r : Int) (m1 : zMem) (f1 : Int → Int) (f2 : Int → Int) (f3 : Int → Int) (n1 : Int) (n2 : Int) (n3 : Int), (zAn mem m1 r (zyB mem a b 0 0) (zmd (zar f3 (n3 - 2).toNat) (zar f1 (n1 - 2).toNat) (zar f2 (n2 - 2).toNat))) → (zyB mem a b 0 0 = 0 → zHu (zP1 (zco mem a)) f1 n1 ∧ zHu (zP1 (zco mem b)) f2 n2 ∧ zHu (zP2 (zco mem a) (zco mem b)) f3 n3) → Q (some (zI r)) (zS L) m1) : zw_Ok l mm_X10_mixed [zR 0, zI a, zI b] (zS L) mem Q := by
  refine zw_okA (fun hA => ?_)
  have rg_a : -2147483648 ≤ a ∧ a < 2147483648 := hA.2.1
  have rg_b : -2147483648 ≤ b ∧ b < 2147483648 := hA.2.2.1
  refine zw_enter (by decide) (Nat.le_of_ble_eq_true rfl) rfl ?_
  show zw_Wp l mm_X10_mixed (zS L) 0 [some (zR 0), some (zI a), some (zI b), none, none] [] mem 0 0 Q
  obtain ⟨I1, I2, I3, I4, I5, I6, I7⟩ := id hI
  have hp := I1.1
  have hpr := hp.rg
  have e10 := I1.2.1
  have hn5 := I1.2.2.1
  have e11 := I1.2.2.2.1
  refine wp_aload_n dd_X10_mixed_0 rfl ?_
  refine wp_iload_n dd_X10_mixed_1 rfl ?_
  refine wp_iload_n dd_X10_mixed_2 rfl ?_
  refine wp_callV (M' := mm_X10_polygonRefusal) (As := [zI a, zI b]) (rest := []) dd_X10_mixed_3 lk_X10_278 mV_X10_polygonRefusal kk_0 (zlt rfl) ⟨_, _, rfl⟩ rfl (by decide) (by decide) (Nat.le_of_ble_eq_true rfl) rfl (sp_X10_polygonRefusal  a b hI ?_)
  show zw_Wp l mm_X10_mixed (zS L) 6 [some (zR 0), some (zI a), some (zI b), none, none] [zI (zyB mem a b 0 0)] mem 0 0 Q
  have hyc := zyB_c mem a b 0 0
  refine wp_istore_n (ls2 := [some (zR 0), some (zI a), some (zI b), some (zI (zyB mem a b 0 0)), none]) dd_X10_mixed_6 rfl (by decide) rfl ?_
  refine wp_iload_n dd_X10_mixed_7 rfl ?_
  refine wp_if_eq (tgt := 17) dd_X10_mixed_8 (by decide) (fun c8_1 => ?_) (fun c8_1 => ?_)
  · skip
    have hz : zyB mem a b 0 0 = 0 := by omega
    obtain ⟨⟨hia, hib, hl, htb⟩, hna, hnb⟩ := zyB_0 hz
    have hqa : 0 ≤ a ∧ a < 6 := by omega
    have hqb : 0 ≤ b ∧ b < 6 := by omega
    have hTa := I1.T (q := a) (by omega) (by omega)
    have hTb := I1.T (q := b) (by omega) (by omega)
    have hCa := I1.C (q := a) (by omega) (by omega)
    have hCb := I1.C (q := b) (by omega) (by omega)
    have hcra := zco_rg hp hTa
    have hcrb := zco_rg hp hTb
    have hzoa := zo_rg hqa
    have hzob := zo_rg hqb
    refine wp_aload_n dd_X10_mixed_17 rfl ?_
    refine wp_getR dd_X10_mixed_18 gf_X10_50 rfl kk_0 (by decide) (zlt rfl) rr_0_6 ?_
    refine wp_aload_n dd_X10_mixed_21 rfl ?_
    refine wp_getR dd_X10_mixed_22 gf_X10_12 rfl kk_0 (by decide) (zlt rfl) rr_0_0 ?_
    refine wp_getR dd_X10_mixed_25 gf_X10_135 rfl kk_1 (by decide) (zlt rfl) rr_1_2 ?_
    refine wp_iload_n dd_X10_mixed_28 rfl ?_
    refine wp_aald dd_X10_mixed_29 kk_2 (zlt rfl) (by omega) (by omega) (zr2 rfl hqa) ?_
    refine wp_callV (M' := mm_X5_ofOne) (As := [zR (zo a)]) (rest := []) dd_X10_mixed_30 lk_X10_282 mV_X5_ofOne kk_57 (zlt rfl) ⟨_, _, rfl⟩ rfl (by decide) (by decide) (Nat.le_of_ble_eq_true rfl) rfl (sp_X5_ofOne (zco mem a) (zo a) (zoP hqa) hCa hna (fun ff1 nn1 mh1 H1 C1 g1 => ?_))
    show zw_Wp l mm_X10_mixed (zS L) 33 [some (zR 0), some (zI a), some (zI b), some (zI (zyB mem a b 0 0)), none] [] mh1 0 0 Q
    refine wp_aload_n dd_X10_mixed_33 rfl ?_
    refine wp_getR dd_X10_mixed_34 gf_X10_50 rfl kk_0 (by decide) (zlt rfl) rr_0_6 ?_
    refine wp_callV (M' := mm_X5_twiceCovered) (As := []) (rest := []) dd_X10_mixed_37 lk_X10_289 mV_X5_twiceCovered kk_57 (zlt rfl) ⟨_, _, rfl⟩ rfl (by decide) (by decide) (Nat.le_of_ble_eq_true rfl) rfl (sp_X5_twiceCovered ff1 nn1  C1 ?_)
    show zw_Wp l mm_X10_mixed (zS L) 40 [some (zR 0), some (zI a), some (zI b), some (zI (zyB mem a b 0 0)), none] [zI (zar ff1 (nn1 - 2).toNat)] mh1 0 0 Q
    have b1 := zar_bd (f := ff1) (n := nn1) (fun x q1 q2 => (H1.2.1 x q1 (by omega)).1) C1.2.1
    refine wp_istore (ls2 := [some (zR 0), some (zI a), some (zI b), some (zI (zyB mem a b 0 0)), some (zI (zar ff1 (nn1 - 2).toNat))]) dd_X10_mixed_40 rfl (by decide) rfl ?_
    refine wp_aload_n dd_X10_mixed_42 rfl ?_
    refine wp_getR dd_X10_mixed_43 gf_X10_50 rfl kk_0 (by decide) (zlt rfl) rr_0_6 ?_
    refine wp_aload_n dd_X10_mixed_46 rfl ?_
    refine wp_getR dd_X10_mixed_47 gf_X10_12 rfl kk_0 (by decide) (zlt rfl) rr_0_0 ?_
    refine wp_getR dd_X10_mixed_50 gf_X10_135 rfl kk_1 (by decide) (zlt rfl) rr_1_2 ?_
    refine wp_iload_n dd_X10_mixed_53 rfl ?_
    refine wp_aald dd_X10_mixed_54 kk_2 (zlt rfl) (by omega) (by omega) (zr2 rfl hqb) ?_
    refine wp_callV (M' := mm_X5_ofOne) (As := [zR (zo b)]) (rest := []) dd_X10_mixed_55 lk_X10_282 mV_X5_ofOne kk_57 (zlt rfl) ⟨_, _, rfl⟩ rfl (by decide) (by decide) (Nat.le_of_ble_eq_true rfl) rfl (sp_X5_ofOne (zco mem b) (zo b) (zoP hqb) (hCb.keep (g1 _ (by omega) (by omega) (by omega))) hnb (fun ff2 nn2 mh2 H2 C2 g2 => ?_))
    show zw_Wp l mm_X10_mixed (zS L) 58 [some (zR 0), some (zI a), some (zI b), some (zI (zyB mem a b 0 0)), some (zI (zar ff1 (nn1 - 2).toNat))] [] mh2 0 0 Q
    refine wp_iload dd_X10_mixed_58 rfl ?_
    refine wp_aload_n dd_X10_mixed_60 rfl ?_
    refine wp_getR dd_X10_mixed_61 gf_X10_50 rfl kk_0 (by decide) (zlt rfl) rr_0_6 ?_
    refine wp_callV (M' := mm_X5_twiceCovered) (As := []) (rest := [zI (zar ff1 (nn1 - 2).toNat)]) dd_X10_mixed_64 lk_X10_289 mV_X5_twiceCovered kk_57 (zlt rfl) ⟨_, _, rfl⟩ rfl (by decide) (by decide) (Nat.le_of_ble_eq_true rfl) rfl (sp_X5_twiceCovered ff2 nn2  C2 ?_)
    show zw_Wp l mm_X10_mixed (zS L) 67 [some (zR 0), some (zI a), some (zI b), some (zI (zyB mem a b 0 0)), some (zI (zar ff1 (nn1 - 2).toNat))] [zI (zar ff2 (nn2 - 2).toNat), zI (zar ff1 (nn1 - 2).toNat)] mh2 0 0 Q
    have b2 := zar_bd (f := ff2) (n := nn2) (fun x q1 q2 => (H2.2.1 x q1 (by omega)).1) C2.2.1
    refine wp_iaddC dd_X10_mixed_67 (by omega) ?_
    refine wp_istore (ls2 := [some (zR 0), some (zI a), some (zI b), some (zI (zyB mem a b 0 0)), some (zI ((zar ff1 (nn1 - 2).toNat) + (zar ff2 (nn2 - 2).toNat)))]) dd_X10_mixed_68 rfl (by decide) rfl ?_
    refine wp_aload_n dd_X10_mixed_70 rfl ?_
    refine wp_getR dd_X10_mixed_71 gf_X10_50 rfl kk_0 (by decide) (zlt rfl) rr_0_6 ?_
    refine wp_aload_n dd_X10_mixed_74 rfl ?_
    refine wp_getR dd_X10_mixed_75 gf_X10_12 rfl kk_0 (by decide) (zlt rfl) rr_0_0 ?_
    refine wp_getR dd_X10_mixed_78 gf_X10_135 rfl kk_1 (by decide) (zlt rfl) rr_1_2 ?_
    refine wp_iload_n dd_X10_mixed_81 rfl ?_
    refine wp_aald dd_X10_mixed_82 kk_2 (zlt rfl) (by omega) (by omega) (zr2 rfl hqa) ?_
    refine wp_aload_n dd_X10_mixed_83 rfl ?_
    refine wp_getR dd_X10_mixed_84 gf_X10_12 rfl kk_0 (by decide) (zlt rfl) rr_0_0 ?_
    refine wp_getR dd_X10_mixed_87 gf_X10_135 rfl kk_1 (by decide) (zlt rfl) rr_1_2 ?_
    refine wp_iload_n dd_X10_mixed_90 rfl ?_
    refine wp_aald dd_X10_mixed_91 kk_2 (zlt rfl) (by omega) (by omega) (zr2 rfl hqb) ?_
    refine wp_callV (M' := mm_X5_ofTwo) (As := [zR (zo a), zR (zo b)]) (rest := []) dd_X10_mixed_92 lk_X10_292 mV_X5_ofTwo kk_57 (zlt rfl) ⟨_, _, rfl⟩ rfl (by decide) (by decide) (Nat.le_of_ble_eq_true rfl) rfl (sp_X5_ofTwo (zco mem a) (zco mem b) (zo a) (zo b) (zoP hqa) (zoP hqb) (hCa.keep (by rw [g2 _ (by omega) (by omega) (by omega)]; exact g1 _ (by omega) (by omega) (by omega))) (hCb.keep (by rw [g2 _ (by omega) (by omega) (by omega)]; exact g1 _ (by omega) (by omega) (by omega))) hna hnb (fun ff3 nn3 mh3 H3 C3 g3 => ?_))
    show zw_Wp l mm_X10_mixed (zS L) 95 [some (zR 0), some (zI a), some (zI b), some (zI (zyB mem a b 0 0)), some (zI ((zar ff1 (nn1 - 2).toNat) + (zar ff2 (nn2 - 2).toNat)))] [] mh3 0 0 Q
    refine wp_aload_n dd_X10_mixed_95 rfl ?_
    refine wp_getR dd_X10_mixed_96 gf_X10_50 rfl kk_0 (by decide) (zlt rfl) rr_0_6 ?_
    refine wp_callV (M' := mm_X5_twiceCovered) (As := []) (rest := []) dd_X10_mixed_99 lk_X10_289 mV_X5_twiceCovered kk_57 (zlt rfl) ⟨_, _, rfl⟩ rfl (by decide) (by decide) (Nat.le_of_ble_eq_true rfl) rfl (sp_X5_twiceCovered ff3 nn3  C3 ?_)
    show zw_Wp l mm_X10_mixed (zS L) 102 [some (zR 0), some (zI a), some (zI b), some (zI (zyB mem a b 0 0)), some (zI ((zar ff1 (nn1 - 2).toNat) + (zar ff2 (nn2 - 2).toNat)))] [zI (zar ff3 (nn3 - 2).toNat)] mh3 0 0 Q
    have b3 := zar_bd (f := ff3) (n := nn3) (fun x q1 q2 => (H3.2.1 x q1 (by omega)).1) C3.2.1
    refine wp_iload dd_X10_mixed_102 rfl ?_
    refine wp_isubC dd_X10_mixed_104 (by omega) ?_
    refine wp_iconst dd_X10_mixed_105 (zr_lit rfl) ?_
    refine wp_idiv dd_X10_mixed_106 (by omega) ?_
    refine wp_ireturn (st := []) dd_X10_mixed_107 rfl ?_
    exact k _ _ ff1 ff2 ff3 nn1 nn2 nn3 (Or.inr ⟨hz, rfl, fun x hx => by rw [g3 x (by omega) (by omega) (by omega), g2 x (by omega) (by omega) (by omega), g1 x (by omega) (by omega) (by omega)]⟩) (fun _ => ⟨H1, H2, H3⟩)
  · skip
    refine wp_aload_n dd_X10_mixed_11 rfl ?_
    refine wp_iload_n dd_X10_mixed_12 rfl ?_
    refine wp_callV (M' := mm_X10_refuse) (As := [zI (zyB mem a b 0 0)]) (rest := []) dd_X10_mixed_13 lk_X10_76 mV_X10_refuse kk_0 (zlt rfl) ⟨_, _, rfl⟩ rfl (by decide) (by decide) (Nat.le_of_ble_eq_true rfl) rfl (sp_X10_refuse  (zyB mem a b 0 0) (by first | assumption | omega) ?_)
    show zw_Wp l mm_X10_mixed (zS L) 16 [some (zR 0), some (zI a), some (zI b), some (zI (zyB mem a b 0 0)), none] [zI (zyB mem a b 0 0)] (zCn mem (zyB mem a b 0 0)) 0 0 Q
    refine wp_ireturn (st := []) dd_X10_mixed_16 rfl ?_
    exact k _ _ (fun _ => 0) (fun _ => 0) (fun _ => 0) 0 0 0 (Or.inl ⟨by assumption, rfl, rfl⟩) (fun z9 => absurd z9 (by assumption))

set_option maxRecDepth 100000 in
set_option maxHeartbeats 4000000 in
theorem sp_X10_odds {l : Launch} {L : Nat} {mem : zMem} {Q : zQ}  (q : Int) (w : Int) (hI : zInv mem) (k : ∀ (r : Int) (m1 : zMem), (zAJ mem m1 r (zyU mem q w) (zod mem q w)) → Q (some (zJ r)) (zS L) m1) : zw_Ok l mm_X10_odds [zR 0, zI q, zI w] (zS L) mem Q := by
  refine zw_okA (fun hA => ?_)
  have rg_q : -2147483648 ≤ q ∧ q < 2147483648 := hA.2.1
  have rg_w : -2147483648 ≤ w ∧ w < 2147483648 := hA.2.2.1
  refine zw_enter (by decide) (Nat.le_of_ble_eq_true rfl) rfl ?_
  show zw_Wp l mm_X10_odds (zS L) 0 [some (zR 0), some (zI q), some (zI w), none, none] [] mem 0 0 Q
  obtain ⟨I1, I2, I3, I4, I5, I6, I7⟩ := id hI
  have hp := I1.1
  have hpr := hp.rg
  have e10 := I1.2.1
  have hn5 := I1.2.2.1
  have e11 := I1.2.2.2.1
  have hpp := zmul_rg (a := mem 67 1) (b := mem 67 1) (A := 31) (B := 31) (by omega) (by omega) (by omega) (by omega)
  have hpq : 0 < mem 67 1 * mem 67 1 := Int.mul_pos (by omega) (by omega)
  have h01 := zri_01 (zco mem q) (zco mem q) (mem 67 1)
  have hxp := zcX_pp h01 (show 0 ≤ mem 67 1 by omega) (mem 67 1).toNat
  rw [show (((mem 67 1).toNat : Nat) : Int) = mem 67 1 by omega] at hxp
  refine wp_aload_n dd_X10_odds_0 rfl ?_
  refine wp_getR dd_X10_odds_1 gf_X10_12 rfl kk_0 (by decide) (zlt rfl) rr_0_0 ?_
  refine wp_iload_n dd_X10_odds_4 rfl ?_
  refine wp_callV (M' := mm_X8_has) (As := [zI q]) (rest := []) dd_X10_odds_5 lk_X10_132 mV_X8_has kk_1 (zlt rfl) ⟨_, _, rfl⟩ rfl (by decide) (by decide) (Nat.le_of_ble_eq_true rfl) rfl (sp_X8_has  q  ?_)
  show zw_Wp l mm_X10_odds (zS L) 8 [some (zR 0), some (zI q), some (zI w), none, none] [zI (if 0 ≤ q ∧ q < mem 1 1 then 1 else 0)] mem 0 0 Q
  refine wp_if_ne (tgt := 17) dd_X10_odds_8 (by decide) (fun c8_1 => ?_) (fun c8_1 => ?_)
  · skip
    refine wp_iload_n dd_X10_odds_17 rfl ?_
    refine wp_if_lt (tgt := 26) dd_X10_odds_18 (by decide) (fun c18_2 => ?_) (fun c18_2 => ?_)
    · skip
      refine wp_aload_n dd_X10_odds_26 rfl ?_
      refine wp_bipush dd_X10_odds_27 (by decide) ?_
      refine wp_callV (M' := mm_X10_refuseLong) (As := [zI (-2)]) (rest := []) dd_X10_odds_29 lk_X10_304 mV_X10_refuseLong kk_0 (zlt rfl) ⟨_, _, rfl⟩ rfl (by decide) (by decide) (Nat.le_of_ble_eq_true rfl) rfl (sp_X10_refuseLong  (-2) (by first | assumption | omega) ?_)
      show zw_Wp l mm_X10_odds (zS L) 32 [some (zR 0), some (zI q), some (zI w), none, none] [zJ (4000000000000000000 - (-2))] (zCn mem (-2)) 0 0 Q
      refine wp_lreturn (st := []) dd_X10_odds_32 rfl ?_
      have hw : zyU mem q w = (-2) := by unfold zyU; (repeat first | rw [if_pos (by omega)] | rw [if_neg (by omega)]); try omega
      exact k _ _ (Or.inl ⟨by rw [hw]; decide, by rw [hw], by rw [hw]⟩)
    · skip
      refine wp_iload_n dd_X10_odds_21 rfl ?_
      refine wp_iconst dd_X10_odds_22 (zr_lit rfl) ?_
      refine wp_icmp_le (tgt := 33) dd_X10_odds_23 (by decide) (fun c23_3 => ?_) (fun c23_3 => ?_)
      · skip
        refine wp_aload_n dd_X10_odds_33 rfl ?_
        refine wp_iload_n dd_X10_odds_34 rfl ?_
        refine wp_iload_n dd_X10_odds_35 rfl ?_
        refine wp_bipush dd_X10_odds_36 (by decide) ?_
        refine wp_callV (M' := mm_X10_tryAll) (As := [zI q, zI q, zI (-9)]) (rest := []) dd_X10_odds_38 lk_X10_260 mV_X10_tryAll kk_0 (zlt rfl) ⟨_, _, rfl⟩ rfl (by decide) (by decide) (Nat.le_of_ble_eq_true rfl) rfl (sp_X10_tryAll  q q (-9) hI (by omega) (fun mT fT gT => ?_))
        show zw_Wp l mm_X10_odds (zS L) 41 [some (zR 0), some (zI q), some (zI w), none, none] [] mT 0 0 Q
        have hCk : zCk mem mT := fun x hx => gT x (by omega)
        have t10 : mT 1 0 = mem 67 1 := by rw [gT 1 (by decide)]; exact e10
        refine wp_aload_n dd_X10_odds_41 rfl ?_
        refine wp_getR dd_X10_odds_42 gf_X10_12 rfl kk_0 (by decide) (zlt rfl) rr_0_0 ?_
        refine wp_getZ 0 rfl dd_X10_odds_45 gf_X10_114 rfl kk_1 (by decide) (zlt rfl) ?_
        rw [show (mT 1 0 : Int) = mem 67 1 from t10]
        refine wp_aload_n dd_X10_odds_48 rfl ?_
        refine wp_getR dd_X10_odds_49 gf_X10_12 rfl kk_0 (by decide) (zlt rfl) rr_0_0 ?_
        refine wp_getZ 0 rfl dd_X10_odds_52 gf_X10_114 rfl kk_1 (by decide) (zlt rfl) ?_
        rw [show (mT 1 0 : Int) = mem 67 1 from t10]
        refine wp_imulC dd_X10_odds_55 (by omega) ?_
        refine wp_istore_n (ls2 := [some (zR 0), some (zI q), some (zI w), some (zI ((mem 67 1) * (mem 67 1))), none]) dd_X10_odds_56 rfl (by decide) rfl ?_
        refine wp_aload_n dd_X10_odds_57 rfl ?_
        refine wp_getR dd_X10_odds_58 gf_X10_57 rfl kk_0 (by decide) (zlt rfl) rr_0_7 ?_
        refine wp_getZ 0 rfl dd_X10_odds_61 gf_X10_269 rfl kk_60 (by decide) (zlt rfl) ?_
        rw [show (mT 60 0 : Int) = zcX (zri (zco mem q) (zco mem q) (mem 67 1)) (mem 67 1) (mem 67 1).toNat from fT.1]
        refine wp_iload_n dd_X10_odds_64 rfl ?_
        refine wp_callS (M' := mm_X2_commonDivisor) (As := [zI (zcX (zri (zco mem q) (zco mem q) (mem 67 1)) (mem 67 1) (mem 67 1).toNat), zI ((mem 67 1) * (mem 67 1))]) (rest := []) dd_X10_odds_65 lk_X10_308 mS_X2_commonDivisor rfl (by decide) (by decide) (Nat.le_of_ble_eq_true rfl) rfl (sp_X2_commonDivisor  (zcX (zri (zco mem q) (zco mem q) (mem 67 1)) (mem 67 1) (mem 67 1).toNat) ((mem 67 1) * (mem 67 1)) (by omega) (by omega) ?_)
        show zw_Wp l mm_X10_odds (zS L) 68 [some (zR 0), some (zI q), some (zI w), some (zI ((mem 67 1) * (mem 67 1))), none] [zI (zgcd (zcX (zri (zco mem q) (zco mem q) (mem 67 1)) (mem 67 1) (mem 67 1).toNat) ((mem 67 1) * (mem 67 1)))] mT 0 0 Q
        have hgp : 0 < zgcd (zcX (zri (zco mem q) (zco mem q) (mem 67 1)) (mem 67 1) (mem 67 1).toNat) (mem 67 1 * mem 67 1) := by
          unfold zgcd
          have := Nat.gcd_pos_of_pos_right (zcX (zri (zco mem q) (zco mem q) (mem 67 1)) (mem 67 1) (mem 67 1).toNat).toNat (show 0 < (mem 67 1 * mem 67 1).toNat by omega)
          omega
        refine wp_istore (ls2 := [some (zR 0), some (zI q), some (zI w), some (zI ((mem 67 1) * (mem 67 1))), some (zI (zgcd (zcX (zri (zco mem q) (zco mem q) (mem 67 1)) (mem 67 1) (mem 67 1).toNat) ((mem 67 1) * (mem 67 1))))]) dd_X10_odds_68 rfl (by decide) rfl ?_
        refine wp_iload_n dd_X10_odds_70 rfl ?_
        refine wp_if_ne (tgt := 84) dd_X10_odds_71 (by decide) (fun c71_4 => ?_) (fun c71_4 => ?_)
        · skip
          refine wp_iload_n dd_X10_odds_84 rfl ?_
          refine wp_iload dd_X10_odds_85 rfl ?_
          refine wp_idivP dd_X10_odds_87 (by omega) (by omega) ?_
          refine wp_i2l dd_X10_odds_88 ?_
          refine wp_lreturn (st := []) dd_X10_odds_89 rfl ?_
          have hw : zyU mem q w = 0 := by unfold zyU; (repeat first | rw [if_pos (by omega)] | rw [if_neg (by omega)]); try omega
          refine k _ _ (Or.inr ⟨hw, ?_, hCk⟩)
          unfold zod
          first | rw [if_pos (by omega)] | rw [if_neg (by omega)]
        · skip
          refine wp_aload_n dd_X10_odds_74 rfl ?_
          refine wp_getR dd_X10_odds_75 gf_X10_57 rfl kk_0 (by decide) (zlt rfl) rr_0_7 ?_
          refine wp_getZ 0 rfl dd_X10_odds_78 gf_X10_269 rfl kk_60 (by decide) (zlt rfl) ?_
          rw [show (mT 60 0 : Int) = zcX (zri (zco mem q) (zco mem q) (mem 67 1)) (mem 67 1) (mem 67 1).toNat from fT.1]
          refine wp_goto (tgt := 85) dd_X10_odds_81 (by decide) ?_
          refine wp_iload dd_X10_odds_85 rfl ?_
          refine wp_idivP dd_X10_odds_87 (by omega) (by omega) ?_
          refine wp_i2l dd_X10_odds_88 ?_
          refine wp_lreturn (st := []) dd_X10_odds_89 rfl ?_
          have hw : zyU mem q w = 0 := by unfold zyU; (repeat first | rw [if_pos (by omega)] | rw [if_neg (by omega)]); try omega
          refine k _ _ (Or.inr ⟨hw, ?_, hCk⟩)
          unfold zod
          first | rw [if_pos (by omega)] | rw [if_neg (by omega)]
      · skip
        refine wp_aload_n dd_X10_odds_26 rfl ?_
        refine wp_bipush dd_X10_odds_27 (by decide) ?_
        refine wp_callV (M' := mm_X10_refuseLong) (As := [zI (-2)]) (rest := []) dd_X10_odds_29 lk_X10_304 mV_X10_refuseLong kk_0 (zlt rfl) ⟨_, _, rfl⟩ rfl (by decide) (by decide) (Nat.le_of_ble_eq_true rfl) rfl (sp_X10_refuseLong  (-2) (by first | assumption | omega) ?_)
        show zw_Wp l mm_X10_odds (zS L) 32 [some (zR 0), some (zI q), some (zI w), none, none] [zJ (4000000000000000000 - (-2))] (zCn mem (-2)) 0 0 Q
        refine wp_lreturn (st := []) dd_X10_odds_32 rfl ?_
        have hw : zyU mem q w = (-2) := by unfold zyU; (repeat first | rw [if_pos (by omega)] | rw [if_neg (by omega)]); try omega
        exact k _ _ (Or.inl ⟨by rw [hw]; decide, by rw [hw], by rw [hw]⟩)
  · skip
    refine wp_aload_n dd_X10_odds_11 rfl ?_
    refine wp_iconst dd_X10_odds_12 (zr_lit rfl) ?_
    refine wp_callV (M' := mm_X10_refuseLong) (As := [zI (-1)]) (rest := []) dd_X10_odds_13 lk_X10_304 mV_X10_refuseLong kk_0 (zlt rfl) ⟨_, _, rfl⟩ rfl (by decide) (by decide) (Nat.le_of_ble_eq_true rfl) rfl (sp_X10_refuseLong  (-1) (by first | assumption | omega) ?_)
    show zw_Wp l mm_X10_odds (zS L) 16 [some (zR 0), some (zI q), some (zI w), none, none] [zJ (4000000000000000000 - (-1))] (zCn mem (-1)) 0 0 Q
    refine wp_lreturn (st := []) dd_X10_odds_16 rfl ?_
    have hw : zyU mem q w = (-1) := by unfold zyU; (repeat first | rw [if_pos (by omega)] | rw [if_neg (by omega)]); try omega
    exact k _ _ (Or.inl ⟨by rw [hw]; decide, by rw [hw], by rw [hw]⟩)

