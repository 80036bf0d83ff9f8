/-! ===== the class: minors of a set, all minors ===== -/
theorem zmsm_hi {cell : Int → Int → Int → Int} {prev : Int → Int → Int} {s d sp : Int} (hs : 0 < s ∧ s < 256) (hd : zbits s * sp < d ∧ d < 41) (hsp : 0 ≤ sp) (hc : ∀ c k : Int, 0 ≤ c → c < 8 → s / 2 ^ c.toNat % 2 = 1 → sp < k → k < 9 → cell (zbits s - 1) c k = 0) (hM : ∀ c k : Int, 0 ≤ c → c < 8 → s / 2 ^ c.toNat % 2 = 1 → (zbits s - 1) * sp < k → k < 41 → prev (s - 2 ^ c.toNat) k = 0) : ∀ n : Nat, n ≤ 8 → zmsm cell prev s d n = 0
  | 0, _ => rfl
  | n + 1, hn => by
    rw [zmsm, zmsm_hi hs hd hsp hc hM n (by omega)]
    by_cases q : s / 2 ^ n % 2 = 1
    · rw [if_pos q]
      have e : zcn (cell (zbits s - 1) (n : Int)) (prev (s - 2 ^ n)) d 9 = 0 := by
        refine zcn_hi (A := sp) (B := (zbits s - 1) * sp) (fun k q1 q2 => hc n k (by omega) (by omega) q q1 q2) (fun k q1 q2 => hM n k (by omega) (by omega) q q1 (by omega)) ?_ 9 (by omega)
        have : (zbits s - 1) * sp = zbits s * sp - sp := by rw [Int.sub_mul, Int.one_mul]
        omega
      rw [e, Int.mul_zero]; rfl
    · rw [if_neg q]; rfl
theorem zmt_at {cell : Int → Int → Int → Int} {p : Int} {sz : Nat} {s d : Int} (hs : 0 < s) : zmt cell p sz (s + 1).toNat s d = zmsm cell (zmt cell p sz s.toNat) s d sz % p := by
  rw [show (s + 1).toNat = s.toNat + 1 by omega, zmt, show ((s.toNat : Nat) : Int) = s by omega, if_pos rfl, if_neg (by omega)]
theorem zmt_ne {cell : Int → Int → Int → Int} {p : Int} {sz : Nat} {s y d : Int} (hs : 0 < s) (hy : y ≠ s) : zmt cell p sz (s + 1).toNat y d = zmt cell p sz s.toNat y d := by
  rw [show (s + 1).toNat = s.toNat + 1 by omega, zmt, show ((s.toNat : Nat) : Int) = s by omega, if_neg hy]
theorem zmt_1 {cell : Int → Int → Int → Int} {p : Int} {sz : Nat} {d : Int} : zmt cell p sz 1 0 d = if d = 0 then 1 else 0 := by
  show zmt cell p sz (0 + 1) 0 d = _
  rw [zmt, if_pos (show (0 : Int) = ((0 : Nat) : Int) from rfl), if_pos rfl]
theorem zMs.kp {m m2 : zMem} {f : Int → Int} {y sp : Int} (h : zMs m f y sp) (h1 : m2 52 y = m 52 y) (h2 : ∀ d : Int, 0 ≤ d → d ≤ 32 → m2 51 (33 * y + d) = m 51 (33 * y + d)) : zMs m2 f y sp := by
  obtain ⟨a1, a2, a3⟩ := h
  refine ⟨by rw [h1]; exact a1, fun d q1 q2 => ?_, fun d q1 q2 => a3 d (by omega) q2⟩
  rw [h1] at q2
  rw [h2 d q1 (by omega)]; exact a2 d q1 q2
theorem zMs.fn {m : zMem} {f g : Int → Int} {y sp : Int} (h : zMs m f y sp) (e : ∀ d : Int, 0 ≤ d → d < 41 → f d = g d) : zMs m g y sp := by
  obtain ⟨a1, a2, a3⟩ := h
  refine ⟨a1, fun d q1 q2 => by rw [← e d q1 (by omega)]; exact a2 d q1 q2, fun d q1 q2 => ?_⟩
  rw [← e d (by omega) q2]; exact a3 d q1 q2
theorem zbits_mul {s sz sp : Int} (h : 1 ≤ zbits s ∧ zbits s ≤ sz) (h0 : 0 ≤ sp) (hz : sz * sp ≤ 32) : 0 ≤ zbits s * sp ∧ zbits s * sp ≤ 32 := by
  have h1 := Int.mul_nonneg (show 0 ≤ zbits s by omega) h0
  have h2 := Int.mul_le_mul_of_nonneg_right h.2 h0
  omega

set_option maxRecDepth 100000 in
set_option maxHeartbeats 4000000 in
theorem sp_X9_expandSet {l : Launch} {L : Nat} {mem : zMem} {Q : zQ} (cell : Int → Int → Int → Int) (sz sp : Int) (s : Int) (p : Int) (hp : 2 ≤ p ∧ p ≤ 31) (hz : mem 48 4 = sz ∧ 0 ≤ sz ∧ sz ≤ 8) (hsp : mem 48 5 = sp ∧ 0 ≤ sp ∧ sp ≤ 8 ∧ sz * sp ≤ 32) (ht : zTc mem sz cell) (hcr : zCr cell p sz) (hch : ∀ r c k : Int, 0 ≤ r ∧ r < sz → 0 ≤ c ∧ c < sz → sp < k → k < 9 → cell r c k = 0) (hs : 0 < s ∧ s < 1 * 2 ^ sz.toNat) (hO : ∀ y : Int, 0 ≤ y → y < s → zMs mem (zmt cell p sz.toNat s.toNat y) y sp) (k : ∀ (mem2 : zMem), (∀ y : Int, 0 ≤ y → y < s + 1 → zMs mem2 (zmt cell p sz.toNat (s + 1).toNat y) y sp) → (∀ a : Nat, a ≠ 51 → a ≠ 52 → mem2 a = mem a) → Q none (zS L) mem2) : zw_Ok l mm_X9_expandSet [zR 48, zI s, zI p] (zS L) mem Q := by
  refine zw_okA (fun hA => ?_)
  have rg_s : -2147483648 ≤ s ∧ s < 2147483648 := hA.2.1
  have rg_p : -2147483648 ≤ p ∧ p < 2147483648 := hA.2.2.1
  refine zw_enter (by decide) (Nat.le_of_ble_eq_true rfl) rfl ?_
  show zw_Wp l mm_X9_expandSet (zS L) 0 [some (zR 48), some (zI s), some (zI p), none, none, none, none, none, none] [] mem 0 0 Q
  obtain ⟨n1, n2, n3, n4⟩ := z2_sz hz.2
  have hbn := n4 s hs.1 hs.2
  have hs256 : s < 256 := by omega
  obtain ⟨ro, hro⟩ : ∃ ro, ro = zbits s - 1 := ⟨_, rfl⟩
  obtain ⟨RE, hRE⟩ : ∃ RE, RE = zbits s * sp := ⟨_, rfl⟩
  have hR32 := zbits_mul hbn hsp.2.1 hsp.2.2.2
  have hmul : (ro + 1) * mem 48 5 = RE := by rw [hRE, hro, hsp.1, show zbits s - 1 + 1 = zbits s by omega]
  have hro8 : 0 ≤ ro ∧ ro < sz := by omega
  have hMr : ∀ y d : Int, 0 ≤ zmt cell p sz.toNat s.toNat y d ∧ zmt cell p sz.toNat s.toNat y d < p := fun y d => zmt_rg hp.1 _ _ _
  refine wp_bipush dd_X9_expandSet_0 (by decide) ?_
  refine wp_iload_n dd_X9_expandSet_2 rfl ?_
  refine wp_imulC dd_X9_expandSet_3 (by omega) ?_
  refine wp_istore_n (ls2 := [some (zR 48), some (zI s), some (zI p), some (zI (33 * s)), none, none, none, none, none]) dd_X9_expandSet_4 rfl (by decide) rfl ?_
  refine wp_iload_n dd_X9_expandSet_5 rfl ?_
  refine wp_callS (M' := mm_J6_bitCount_0f7a4) (As := [zI s]) (rest := []) dd_X9_expandSet_6 lk_X9_89 mS_J6_bitCount_0f7a4 rfl (by decide) (by decide) (Nat.le_of_ble_eq_true rfl) rfl (sp_J6_bitCount_0f7a4  s (by omega) ?_)
  show zw_Wp l mm_X9_expandSet (zS L) 9 [some (zR 48), some (zI s), some (zI p), some (zI (33 * s)), none, none, none, none, none] [zI (zbits s)] mem 0 0 Q
  refine wp_iconst dd_X9_expandSet_9 (zr_lit rfl) ?_
  refine wp_isubC dd_X9_expandSet_10 (by omega) ?_
  rw [show ((zbits s) - 1 : Int) = ro from hro.symm]
  refine wp_istore (ls2 := [some (zR 48), some (zI s), some (zI p), some (zI (33 * s)), some (zI ro), none, none, none, none]) dd_X9_expandSet_11 rfl (by decide) rfl ?_
  refine wp_iload dd_X9_expandSet_13 rfl ?_
  refine wp_iconst dd_X9_expandSet_15 (zr_lit rfl) ?_
  refine wp_iaddC dd_X9_expandSet_16 (by omega) ?_
  refine wp_aload_n dd_X9_expandSet_17 rfl ?_
  refine wp_getZ 5 rfl dd_X9_expandSet_18 gf_X9_43 rfl kk_48 (by decide) (zlt rfl) ?_
  refine wp_imulC dd_X9_expandSet_21 (by omega) ?_
  refine wp_bipush dd_X9_expandSet_22 (by decide) ?_
  refine wp_callS (M' := mm_J9_min_7cf53) (As := [zI ((ro + 1) * (mem 48 5)), zI 32]) (rest := []) dd_X9_expandSet_24 lk_X9_36 mS_J9_min_7cf53 rfl (by decide) (by decide) (Nat.le_of_ble_eq_true rfl) rfl (sp_J9_min_7cf53  ((ro + 1) * (mem 48 5)) 32  ?_)
  show zw_Wp l mm_X9_expandSet (zS L) 27 [some (zR 48), some (zI s), some (zI p), some (zI (33 * s)), some (zI ro), none, none, none, none] [zI (min ((ro + 1) * (mem 48 5)) 32)] mem 0 0 Q
  rw [show (min ((ro + 1) * (mem 48 5)) 32 : Int) = RE from (by rw [hmul]; omega)]
  refine wp_istore (ls2 := [some (zR 48), some (zI s), some (zI p), some (zI (33 * s)), some (zI ro), some (zI RE), none, none, none]) dd_X9_expandSet_27 rfl (by decide) rfl ?_
  refine wp_iconst dd_X9_expandSet_29 (zr_lit rfl) ?_
  refine wp_istore (ls2 := [some (zR 48), some (zI s), some (zI p), some (zI (33 * s)), some (zI ro), some (zI RE), some (zI 0), none, none]) dd_X9_expandSet_30 rfl (by decide) rfl ?_
  have lp32 : ∀ (nf : Nat) (d : Int) (mm : zMem), (0 ≤ d) → (d ≤ RE + 1) → (∀ x : Int, 0 ≤ x → x < d → mm 51 (33 * s + x) = 0) → (∀ a : Nat, a ≠ 51 → mm a = mem a) → (∀ y : Int, (y < 33 * s ∨ 33 * s + 33 ≤ y) → mm 51 y = mem 51 y) → (RE + 1 - d) < (nf : Int) → zw_Wp l mm_X9_expandSet (zS L) 32 [some (zR 48), some (zI s), some (zI p), some (zI (33 * s)), some (zI ro), some (zI RE), some (zI d), none, none] [] mm 0 0 Q := by
    intro nf
    induction nf with
    | zero =>
      intro d mm d0 d1 h2 h3 h4 hmu
      exfalso; omega
    | succ nf ih32 =>
      intro d mm d0 d1 h2 h3 h4 hmu
      have m48 : mm 48 = mem 48 := h3 48 (by decide)
      have m4 : mm 48 4 = sz := by rw [m48]; exact hz.1
      refine wp_iload dd_X9_expandSet_32 rfl ?_
      refine wp_iload dd_X9_expandSet_34 rfl ?_
      refine wp_icmp_gt (tgt := 55) dd_X9_expandSet_36 (by decide) (fun c36_1 => ?_) (fun c36_1 => ?_)
      · skip
        refine wp_iconst dd_X9_expandSet_55 (zr_lit rfl) ?_
        refine wp_istore (ls2 := [some (zR 48), some (zI s), some (zI p), some (zI (33 * s)), some (zI ro), some (zI RE), some (zI 1), none, none]) dd_X9_expandSet_56 rfl (by decide) rfl ?_
        refine wp_aload_n dd_X9_expandSet_58 rfl ?_
        refine wp_getZ 4 rfl dd_X9_expandSet_59 gf_X9_39 rfl kk_48 (by decide) (zlt rfl) ?_
        rw [show (mm 48 4 : Int) = sz from m4]
        refine wp_iconst dd_X9_expandSet_62 (zr_lit rfl) ?_
        refine wp_isubC dd_X9_expandSet_63 (by omega) ?_
        refine wp_istore (ls2 := [some (zR 48), some (zI s), some (zI p), some (zI (33 * s)), some (zI ro), some (zI RE), some (zI 1), some (zI (sz - 1)), none]) dd_X9_expandSet_64 rfl (by decide) rfl ?_
        have lp66 : ∀ (nf : Nat) (sg : Int) (c : Int) (mm : zMem), (-1 ≤ c) → (c ≤ sz - 1) → (sg = zsg s c) → (∀ x : Int, 0 ≤ x → x ≤ RE → mm 51 (33 * s + x) + zmsm cell (zmt cell p sz.toNat s.toNat) s x (c + 1).toNat = zmsm cell (zmt cell p sz.toNat s.toNat) s x sz.toNat) → (∀ x : Int, 0 ≤ x → x ≤ RE → -(9000 * (sz - 1 - c)) ≤ mm 51 (33 * s + x) ∧ mm 51 (33 * s + x) ≤ 9000 * (sz - 1 - c)) → (∀ a : Nat, a ≠ 51 → mm a = mem a) → (∀ y : Int, (y < 33 * s ∨ 33 * s + 33 ≤ y) → mm 51 y = mem 51 y) → (c + 1) < (nf : Int) → zw_Wp l mm_X9_expandSet (zS L) 66 [some (zR 48), some (zI s), some (zI p), some (zI (33 * s)), some (zI ro), some (zI RE), some (zI sg), some (zI c), none] [] mm 0 0 Q := by
          intro nf
          induction nf with
          | zero =>
            intro sg c mm c0 c1 hg h2 hW h3 h4 hmu
            exfalso; omega
          | succ nf ih66 =>
            intro sg c mm c0 c1 hg h2 hW h3 h4 hmu
            have hsr := zsr_rg (s := s) (k := c.toNat) (by omega)
            have h2q := z2_le (n := c)
            have m5 : mm 48 5 = sp := by rw [h3 48 (by decide)]; exact hsp.1
            refine wp_iload dd_X9_expandSet_66 rfl ?_
            refine wp_if_lt (tgt := 111) dd_X9_expandSet_68 (by decide) (fun c68_2 => ?_) (fun c68_2 => ?_)
            · skip
              refine wp_aload_n dd_X9_expandSet_111 rfl ?_
              refine wp_getR dd_X9_expandSet_112 gf_X9_21 rfl kk_48 (by decide) (zlt rfl) rr_48_3 ?_
              refine wp_iload_n dd_X9_expandSet_115 rfl ?_
              refine wp_iconst dd_X9_expandSet_116 (zr_lit rfl) ?_
              refine wp_iast dd_X9_expandSet_117 kk_52 (zlt rfl) (by omega) (by omega) ?_
              refine wp_iconst dd_X9_expandSet_118 (zr_lit rfl) ?_
              refine wp_istore (ls2 := [some (zR 48), some (zI s), some (zI p), some (zI (33 * s)), some (zI ro), some (zI RE), some (zI sg), some (zI 0), none]) dd_X9_expandSet_119 rfl (by decide) rfl ?_
              have lp121 : ∀ (nf : Nat) (i : Int) (mn : zMem), (0 ≤ i) → (i ≤ RE + 1) → (∀ x : Int, 0 ≤ x → x ≤ RE → mn 51 (33 * s + x) = if x < i then zmsm cell (zmt cell p sz.toNat s.toNat) s x sz.toNat % p else zmsm cell (zmt cell p sz.toNat s.toNat) s x sz.toNat) → (-1 ≤ mn 52 s ∧ mn 52 s < i) → (∀ x : Int, mn 52 s < x → x < i → zmsm cell (zmt cell p sz.toNat s.toNat) s x sz.toNat % p = 0) → (∀ a : Nat, a ≠ 51 → a ≠ 52 → mn a = mem a) → (∀ y : Int, (y < 33 * s ∨ 33 * s + 33 ≤ y) → mn 51 y = mem 51 y) → (∀ y : Int, y ≠ s → mn 52 y = mem 52 y) → (RE + 1 - i) < (nf : Int) → zw_Wp l mm_X9_expandSet (zS L) 121 [some (zR 48), some (zI s), some (zI p), some (zI (33 * s)), some (zI ro), some (zI RE), some (zI sg), some (zI i), none] [] mn 0 0 Q := by
                intro nf
                induction nf with
                | zero =>
                  intro i mn i0 i1 k2 kt kz k3 k4 k5 hmu
                  exfalso; omega
                | succ nf ih121 =>
                  intro i mn i0 i1 k2 kt kz k3 k4 k5 hmu
                  have hVi : i ≤ RE → mn 51 (33 * s + i) = zmsm cell (zmt cell p sz.toNat s.toNat) s i sz.toNat := fun q => by rw [k2 i i0 q, if_neg (by omega)]
                  refine wp_iload dd_X9_expandSet_121 rfl ?_
                  refine wp_iload dd_X9_expandSet_123 rfl ?_
                  refine wp_icmp_gt (tgt := 191) dd_X9_expandSet_125 (by decide) (fun c125_3 => ?_) (fun c125_3 => ?_)
                  · skip
                    refine wp_return (st := []) dd_X9_expandSet_191 rfl ?_
                    refine k mn (fun y q1 q2 => ?_) k3
                    by_cases hy : y = s
                    · subst hy
                      refine ⟨⟨kt.1, by rw [← hRE]; omega, by omega⟩, fun d q3 q4 => ?_, fun d q3 q4 => ?_⟩
                      · rw [zmt_at hs.1, k2 d q3 (by omega), if_pos (by omega)]
                      · rw [zmt_at hs.1]
                        by_cases q5 : d ≤ RE
                        · exact kz d q3 (by omega)
                        · rw [zmsm_hi (sp := sp) ⟨hs.1, hs256⟩ ⟨by omega, q4⟩ hsp.2.1 ?_ ?_ _ (by omega), Int.zero_emod]
                          · intro c k z1 z2 z3 z4 z5
                            by_cases z6 : c < sz
                            · exact hch _ _ _ (by omega) ⟨z1, z6⟩ z4 z5
                            · exfalso
                              have w1 : (2 : Int) ^ sz.toNat ≤ 2 ^ c.toNat := by
                                have := Nat.pow_le_pow_right (show 0 < 2 by decide) (show sz.toNat ≤ c.toNat by omega)
                                exact_mod_cast this
                              rw [Int.ediv_eq_zero_of_lt (by omega) (by omega)] at z3
                              omega
                          · intro c k z1 z2 z3 z4 z5
                            obtain ⟨x1, x2, x3⟩ := (zsg_st (s := y) (c := c) (by omega) (by omega)).2 z3
                            have h2p : (0 : Int) < 2 ^ c.toNat := Int.pow_pos (by decide)
                            have hOf := hO (y - 2 ^ c.toNat) (by omega) (by omega)
                            refine hOf.2.2 k ?_ z5
                            have w2 := hOf.1.2.1
                            rw [x3] at w2
                            omega
                    · have hO9 := (hO y q1 (by omega)).kp (m2 := mn) (k5 y hy) (fun d q3 q4 => k4 _ (by omega))
                      exact hO9.fn (fun d _ _ => (zmt_ne hs.1 hy).symm)
                  · skip
                    have hVi := hVi (by omega)
                    refine wp_aload_n dd_X9_expandSet_128 rfl ?_
                    refine wp_getR dd_X9_expandSet_129 gf_X9_18 rfl kk_48 (by decide) (zlt rfl) rr_48_2 ?_
                    refine wp_iload_n dd_X9_expandSet_132 rfl ?_
                    refine wp_iload dd_X9_expandSet_133 rfl ?_
                    refine wp_iaddC dd_X9_expandSet_135 (by omega) ?_
                    refine wp_iald dd_X9_expandSet_136 kk_51 (zlt rfl) (by omega) (by omega) ?_
                    refine wp_istore (ls2 := [some (zR 48), some (zI s), some (zI p), some (zI (33 * s)), some (zI ro), some (zI RE), some (zI sg), some (zI i), some (zI (mn 51 ((33 * s) + i)))]) dd_X9_expandSet_137 rfl (by decide) rfl ?_
                    refine wp_iload dd_X9_expandSet_139 rfl ?_
                    refine wp_if_eq (tgt := 185) dd_X9_expandSet_141 (by decide) (fun c141_4 => ?_) (fun c141_4 => ?_)
                    · skip
                      refine wp_iincC (ls2 := [some (zR 48), some (zI s), some (zI p), some (zI (33 * s)), some (zI ro), some (zI RE), some (zI sg), some (zI (i + 1)), some (zI (mn 51 ((33 * s) + i)))]) dd_X9_expandSet_185 rfl rfl (by decide) (by omega) rfl ?_
                      refine wp_goto (tgt := 121) dd_X9_expandSet_188 (by decide) ?_
                      refine wp_ls (zw_sub_of (a := [some (zR 48), some (zI s), some (zI p), some (zI (33 * s)), some (zI ro), some (zI RE), some (zI sg), some (zI (i + 1)), none]) (And.intro rfl (And.intro rfl (And.intro rfl (And.intro rfl (And.intro rfl (And.intro rfl (And.intro rfl (And.intro rfl (trivial)))))))))) ?_
                      refine ih121 (i + 1) mn ?_ ?_ ?_ ?_ ?_ ?_ ?_ ?_ ?_
                      · first | omega | assumption | (intros; omega)
                      · first | omega | assumption | (intros; omega)
                      · intro x q1 q2
                        by_cases hx : x = i
                        · subst hx
                          rw [if_pos (by omega)]
                          first
                          | (rw [zu_row (by decide), zu_s, hVi])
                          | (rw [hVi] at *; rw [show zmsm cell (zmt cell p sz.toNat s.toNat) s x sz.toNat = 0 by assumption]; exact (Int.zero_emod _).symm)
                        · first
                          | (rw [zu_row (by decide), zu_n (Or.inr (by omega)), k2 x q1 q2]
                             by_cases q : x < i
                             · rw [if_pos q, if_pos (by omega)]
                             · rw [if_neg q, if_neg (by omega)])
                          | (rw [k2 x q1 q2]
                             by_cases q : x < i
                             · rw [if_pos q, if_pos (by omega)]
                             · rw [if_neg q, if_neg (by omega)])
                      · first | (rw [zu_s, zu_row (by decide)]; omega) | (rw [zu_s]; omega) | omega
                      · intro x q1 q2
                        by_cases hx : x = i
                        · subst hx
                          first
                          | (rw [zu_s] at q1; omega)
                          | (rw [← hVi]; assumption)
                          | (rw [← hVi, show mn 51 (33 * s + x) = 0 by assumption]; exact Int.zero_emod _)
                        · first
                          | (rw [zu_s, zu_row (by decide)] at q1; exact kz x q1 (by omega))
                          | (rw [zu_s] at q1; first | omega | exact kz x q1 (by omega))
                          | exact kz x q1 (by omega)
                      · intro a q1 q2; first | (rw [zu_row q2, zu_row q1]; exact k3 a q1 q2) | exact k3 a q1 q2
                      · intro y hy; first | (rw [zu_row (by decide), zu_n (Or.inr (by omega))]; exact k4 y hy) | exact k4 y hy
                      · intro y hy; first | (rw [zu_n (Or.inr hy), zu_row (by decide)]; exact k5 y hy) | exact k5 y hy
                      · omega
                    · skip
                      refine wp_iload dd_X9_expandSet_144 rfl ?_
                      refine wp_iload_n dd_X9_expandSet_146 rfl ?_
                      refine wp_callS (M' := mm_J9_floorMod_7cf53) (As := [zI (mn 51 ((33 * s) + i)), zI p]) (rest := []) dd_X9_expandSet_147 lk_X9_79 mS_J9_floorMod_7cf53 rfl (by decide) (by decide) (Nat.le_of_ble_eq_true rfl) rfl (sp_J9_floorMod_7cf53  (mn 51 ((33 * s) + i)) p (by first | assumption | omega) ?_)
                      show zw_Wp l mm_X9_expandSet (zS L) 150 [some (zR 48), some (zI s), some (zI p), some (zI (33 * s)), some (zI ro), some (zI RE), some (zI sg), some (zI i), some (zI (mn 51 ((33 * s) + i)))] [zI ((mn 51 ((33 * s) + i)) % p)] mn 0 0 Q
                      refine wp_istore (ls2 := [some (zR 48), some (zI s), some (zI p), some (zI (33 * s)), some (zI ro), some (zI RE), some (zI sg), some (zI i), some (zI ((mn 51 ((33 * s) + i)) % p))]) dd_X9_expandSet_150 rfl (by decide) rfl ?_
                      refine wp_aload_n dd_X9_expandSet_152 rfl ?_
                      refine wp_getR dd_X9_expandSet_153 gf_X9_18 rfl kk_48 (by decide) (zlt rfl) rr_48_2 ?_
                      refine wp_iload_n dd_X9_expandSet_156 rfl ?_
                      refine wp_iload dd_X9_expandSet_157 rfl ?_
                      refine wp_iaddC dd_X9_expandSet_159 (by omega) ?_
                      refine wp_iload dd_X9_expandSet_160 rfl ?_
                      refine wp_iast dd_X9_expandSet_162 kk_51 (zlt rfl) (by omega) (by omega) ?_
                      refine wp_aload_n dd_X9_expandSet_163 rfl ?_
                      refine wp_getR dd_X9_expandSet_164 gf_X9_21 rfl kk_48 (by decide) (zlt rfl) rr_48_3 ?_
                      refine wp_iload_n dd_X9_expandSet_167 rfl ?_
                      refine wp_iload dd_X9_expandSet_168 rfl ?_
                      refine wp_if_eq (tgt := 178) dd_X9_expandSet_170 (by decide) (fun c170_5 => ?_) (fun c170_5 => ?_)
                      · skip
                        refine wp_aload_n dd_X9_expandSet_178 rfl ?_
                        refine wp_getR dd_X9_expandSet_179 gf_X9_21 rfl kk_48 (by decide) (zlt rfl) rr_48_3 ?_
                        refine wp_iload_n dd_X9_expandSet_182 rfl ?_
                        refine wp_ialdV (v := mn 52 s) (by rw [zu_row (by decide)]) dd_X9_expandSet_183 kk_52 (zlt rfl) (by omega) (by omega) ?_
                        refine wp_iast dd_X9_expandSet_184 kk_52 (zlt rfl) (by omega) (by omega) ?_
                        refine wp_iincC (ls2 := [some (zR 48), some (zI s), some (zI p), some (zI (33 * s)), some (zI ro), some (zI RE), some (zI sg), some (zI (i + 1)), some (zI ((mn 51 ((33 * s) + i)) % p))]) dd_X9_expandSet_185 rfl rfl (by decide) (by omega) rfl ?_
                        refine wp_goto (tgt := 121) dd_X9_expandSet_188 (by decide) ?_
                        refine wp_ls (zw_sub_of (a := [some (zR 48), some (zI s), some (zI p), some (zI (33 * s)), some (zI ro), some (zI RE), some (zI sg), some (zI (i + 1)), none]) (And.intro rfl (And.intro rfl (And.intro rfl (And.intro rfl (And.intro rfl (And.intro rfl (And.intro rfl (And.intro rfl (trivial)))))))))) ?_
                        refine ih121 (i + 1) (zu (zu mn 51 ((33 * s) + i) ((mn 51 ((33 * s) + i)) % p)) 52 s (mn 52 s)) ?_ ?_ ?_ ?_ ?_ ?_ ?_ ?_ ?_
                        · first | omega | assumption | (intros; omega)
                        · first | omega | assumption | (intros; omega)
                        · intro x q1 q2
                          by_cases hx : x = i
                          · subst hx
                            rw [if_pos (by omega)]
                            first
                            | (rw [zu_row (by decide), zu_s, hVi])
                            | (rw [hVi] at *; rw [show zmsm cell (zmt cell p sz.toNat s.toNat) s x sz.toNat = 0 by assumption]; exact (Int.zero_emod _).symm)
                          · first
                            | (rw [zu_row (by decide), zu_n (Or.inr (by omega)), k2 x q1 q2]
                               by_cases q : x < i
                               · rw [if_pos q, if_pos (by omega)]
                               · rw [if_neg q, if_neg (by omega)])
                            | (rw [k2 x q1 q2]
                               by_cases q : x < i
                               · rw [if_pos q, if_pos (by omega)]
                               · rw [if_neg q, if_neg (by omega)])
                        · first | (rw [zu_s, zu_row (by decide)]; omega) | (rw [zu_s]; omega) | omega
                        · intro x q1 q2
                          by_cases hx : x = i
                          · subst hx
                            first
                            | (rw [zu_s] at q1; omega)
                            | (rw [← hVi]; assumption)
                            | (rw [← hVi, show mn 51 (33 * s + x) = 0 by assumption]; exact Int.zero_emod _)
                          · first
                            | (rw [zu_s, zu_row (by decide)] at q1; exact kz x q1 (by omega))
                            | (rw [zu_s] at q1; first | omega | exact kz x q1 (by omega))
                            | exact kz x q1 (by omega)
                        · intro a q1 q2; first | (rw [zu_row q2, zu_row q1]; exact k3 a q1 q2) | exact k3 a q1 q2
                        · intro y hy; first | (rw [zu_row (by decide), zu_n (Or.inr (by omega))]; exact k4 y hy) | exact k4 y hy
                        · intro y hy; first | (rw [zu_n (Or.inr hy), zu_row (by decide)]; exact k5 y hy) | exact k5 y hy
                        · omega
                      · skip
                        refine wp_iload dd_X9_expandSet_173 rfl ?_
                        refine wp_goto (tgt := 184) dd_X9_expandSet_175 (by decide) ?_
                        refine wp_iast dd_X9_expandSet_184 kk_52 (zlt rfl) (by omega) (by omega) ?_
                        refine wp_iincC (ls2 := [some (zR 48), some (zI s), some (zI p), some (zI (33 * s)), some (zI ro), some (zI RE), some (zI sg), some (zI (i + 1)), some (zI ((mn 51 ((33 * s) + i)) % p))]) dd_X9_expandSet_185 rfl rfl (by decide) (by omega) rfl ?_
                        refine wp_goto (tgt := 121) dd_X9_expandSet_188 (by decide) ?_
                        refine wp_ls (zw_sub_of (a := [some (zR 48), some (zI s), some (zI p), some (zI (33 * s)), some (zI ro), some (zI RE), some (zI sg), some (zI (i + 1)), none]) (And.intro rfl (And.intro rfl (And.intro rfl (And.intro rfl (And.intro rfl (And.intro rfl (And.intro rfl (And.intro rfl (trivial)))))))))) ?_
                        refine ih121 (i + 1) (zu (zu mn 51 ((33 * s) + i) ((mn 51 ((33 * s) + i)) % p)) 52 s i) ?_ ?_ ?_ ?_ ?_ ?_ ?_ ?_ ?_
                        · first | omega | assumption | (intros; omega)
                        · first | omega | assumption | (intros; omega)
                        · intro x q1 q2
                          by_cases hx : x = i
                          · subst hx
                            rw [if_pos (by omega)]
                            first
                            | (rw [zu_row (by decide), zu_s, hVi])
                            | (rw [hVi] at *; rw [show zmsm cell (zmt cell p sz.toNat s.toNat) s x sz.toNat = 0 by assumption]; exact (Int.zero_emod _).symm)
                          · first
                            | (rw [zu_row (by decide), zu_n (Or.inr (by omega)), k2 x q1 q2]
                               by_cases q : x < i
                               · rw [if_pos q, if_pos (by omega)]
                               · rw [if_neg q, if_neg (by omega)])
                            | (rw [k2 x q1 q2]
                               by_cases q : x < i
                               · rw [if_pos q, if_pos (by omega)]
                               · rw [if_neg q, if_neg (by omega)])
                        · first | (rw [zu_s, zu_row (by decide)]; omega) | (rw [zu_s]; omega) | omega
                        · intro x q1 q2
                          by_cases hx : x = i
                          · subst hx
                            first
                            | (rw [zu_s] at q1; omega)
                            | (rw [← hVi]; assumption)
                            | (rw [← hVi, show mn 51 (33 * s + x) = 0 by assumption]; exact Int.zero_emod _)
                          · first
                            | (rw [zu_s, zu_row (by decide)] at q1; exact kz x q1 (by omega))
                            | (rw [zu_s] at q1; first | omega | exact kz x q1 (by omega))
                            | exact kz x q1 (by omega)
                        · intro a q1 q2; first | (rw [zu_row q2, zu_row q1]; exact k3 a q1 q2) | exact k3 a q1 q2
                        · intro y hy; first | (rw [zu_row (by decide), zu_n (Or.inr (by omega))]; exact k4 y hy) | exact k4 y hy
                        · intro y hy; first | (rw [zu_n (Or.inr hy), zu_row (by decide)]; exact k5 y hy) | exact k5 y hy
                        · omega
              refine lp121 ((RE + 1 - 0 : Int)).toNat.succ 0 (zu mm 52 s (-1)) ?_ ?_ ?_ ?_ ?_ ?_ ?_ ?_ ?_
              · first | omega | assumption | (intros; omega)
              · first | omega | assumption | (intros; omega)
              · intro x q1 q2; rw [if_neg (by omega), zu_row (by decide)]; have e9 := h2 x q1 q2; rw [show (c + 1).toNat = 0 by omega] at e9; exact (Int.add_zero _).symm.trans e9
              · rw [zu_s]; omega
              · intro x q1 q2; rw [zu_s] at q1; omega
              · intro a q1 q2; rw [zu_row q2]; exact h3 a q1
              · intro y hy; rw [zu_row (by decide)]; exact h4 y hy
              · intro y hy; rw [zu_n (Or.inr hy), h3 52 (by decide)]
              · omega
            · skip
              refine wp_iload_n dd_X9_expandSet_71 rfl ?_
              refine wp_iload dd_X9_expandSet_72 rfl ?_
              refine wp_ishrP dd_X9_expandSet_74 (by omega) (by omega) ?_
              refine wp_iconst dd_X9_expandSet_75 (zr_lit rfl) ?_
              refine wp_iand1 dd_X9_expandSet_76 (by omega) ?_
              refine wp_if_eq (tgt := 105) dd_X9_expandSet_77 (by decide) (fun c77_6 => ?_) (fun c77_6 => ?_)
              · skip
                have hbit : ¬ s / 2 ^ c.toNat % 2 = 1 := by omega
                refine wp_iincC (ls2 := [some (zR 48), some (zI s), some (zI p), some (zI (33 * s)), some (zI ro), some (zI RE), some (zI sg), some (zI (c + (-1))), none]) dd_X9_expandSet_105 rfl rfl (by decide) (by omega) rfl ?_
                refine wp_goto (tgt := 66) dd_X9_expandSet_108 (by decide) ?_
                refine ih66 sg (c + (-1)) mm ?_ ?_ ?_ ?_ ?_ ?_ ?_ ?_
                · first | omega | assumption | (intros; omega)
                · first | omega | assumption | (intros; omega)
                · rw [(zsg_st (s := s) (c := c) (by omega) (by omega)).1]
                  first
                  | (rw [if_pos hbit, hg])
                  | (rw [if_neg hbit, hg])
                · intro x q1 q2
                  have e9 := h2 x q1 q2
                  rw [show (c + 1).toNat = (c + -1 + 1).toNat + 1 by omega, zmsm, show (((c + -1 + 1).toNat : Nat) : Int) = c by omega, show (c + -1 + 1).toNat = c.toNat by omega] at e9
                  rw [show (c + -1 + 1).toNat = c.toNat by omega]
                  first
                  | (rw [if_neg hbit] at e9; omega)
                  | (rw [if_pos hbit, ← hro] at e9; rw [hx9 x q1 q2]; omega)
                · intro x q1 q2
                  have w9 := hW x q1 q2
                  first
                  | (rw [hx9 x q1 q2]
                     have w8 := hzr x q1 q2
                     rcases zsg_01 s c with z9 | z9 <;> rw [z9] <;> omega)
                  | omega
                · first | assumption | (intro a ha; rw [gm.1 a ha]; exact h3 a ha)
                · first | assumption | (intro y hy; rw [gm.2 y hy]; exact h4 y hy)
                · omega
              · skip
                have hbit : s / 2 ^ c.toNat % 2 = 1 := by omega
                obtain ⟨x1, x2, x3⟩ := (zsg_st (s := s) (c := c) (by omega) (by omega)).2 hbit
                have h2p : (0 : Int) < 2 ^ c.toNat := Int.pow_pos (by decide)
                obtain ⟨fr, hfr⟩ : ∃ fr, fr = s - 2 ^ c.toNat := ⟨_, rfl⟩
                rw [← hfr] at x1 x3
                have hf9 : 0 ≤ fr ∧ fr < s := by omega
                have hOf := hO fr hf9.1 hf9.2
                have m52 : mm 52 = mem 52 := h3 52 (by decide)
                have hf8 : zbits fr * sp = RE - sp := by rw [x3, hRE, Int.sub_mul, Int.one_mul]
                have hce : ∀ x : Int, 0 ≤ x → x < 9 → mm 50 ((ro * 8 + c) * 9 + x) = cell ro c x := fun x q1 q2 => by rw [h3 50 (by decide)]; exact ht ro c x hro8 (by omega) ⟨q1, q2⟩
                have hcR : ∀ x : Int, 0 ≤ x → x < 9 → 0 ≤ cell ro c x ∧ cell ro c x < p := fun x q1 q2 => hcr ro c x hro8 (by omega) ⟨q1, q2⟩
                have hge : ∀ x : Int, 0 ≤ x → x < 41 → zg2 mm fr x = zmt cell p sz.toNat s.toNat fr x := fun x q1 q2 => by
                  unfold zg2
                  rw [m52]
                  by_cases q : x ≤ mem 52 fr
                  · rw [if_pos q, h4 _ (by have := hOf.1; omega)]; exact hOf.2.1 x q1 q
                  · rw [if_neg q]; exact (hOf.2.2 x (by omega) q2).symm
                have hzc : ∀ x : Int, 0 ≤ x → x ≤ RE → zcn (fun y => mm 50 ((ro * 8 + c) * 9 + y)) (zg2 mm fr) x (mm 48 5 + 1).toNat = zcn (cell ro c) (zmt cell p sz.toNat s.toNat fr) x 9 := fun x q1 q2 => by
                  rw [m5, zcn_cg (sp + 1).toNat (fun k q3 q4 => hce k q3 (by omega)) (fun k q3 q4 q5 => hge (x - k) (by omega) (by omega))]
                  have e8 := zcn_up (f := cell ro c) (g := zmt cell p sz.toNat s.toNat fr) (d := x) (n := (sp + 1).toNat) (8 - sp).toNat (fun k q3 q4 => hch ro c k hro8 (by omega) (by omega) (by omega))
                  rw [show (sp + 1).toNat + (8 - sp).toNat = 9 by omega] at e8
                  exact e8.symm
                have hzr : ∀ x : Int, 0 ≤ x → x ≤ RE → 0 ≤ zcn (cell ro c) (zmt cell p sz.toNat s.toNat fr) x 9 ∧ zcn (cell ro c) (zmt cell p sz.toNat s.toNat fr) x 9 ≤ 8649 := fun x q1 q2 => by
                  have := zcn_rg (f := cell ro c) (g := zmt cell p sz.toNat s.toNat fr) (d := x) hp.2 hcR (fun k _ _ => hMr fr k) 9 (by omega)
                  omega
                refine wp_aload_n dd_X9_expandSet_80 rfl ?_
                refine wp_iload_n dd_X9_expandSet_81 rfl ?_
                refine wp_iload dd_X9_expandSet_82 rfl ?_
                refine wp_iload dd_X9_expandSet_84 rfl ?_
                refine wp_callS (M' := mm_X9_baseOf) (As := [zI ro, zI c]) (rest := [zI (33 * s), zR 48]) dd_X9_expandSet_86 lk_X9_52 mS_X9_baseOf rfl (by decide) (by decide) (Nat.le_of_ble_eq_true rfl) rfl (sp_X9_baseOf  ro c (by first | assumption | omega) (by first | assumption | omega) ?_)
                show zw_Wp l mm_X9_expandSet (zS L) 89 [some (zR 48), some (zI s), some (zI p), some (zI (33 * s)), some (zI ro), some (zI RE), some (zI sg), some (zI c), none] [zI ((ro * 8 + c) * 9), zI (33 * s), zR 48] mm 0 0 Q
                refine wp_iload_n dd_X9_expandSet_89 rfl ?_
                refine wp_iconst dd_X9_expandSet_90 (zr_lit rfl) ?_
                refine wp_iload dd_X9_expandSet_91 rfl ?_
                refine wp_ishlP dd_X9_expandSet_93 (by decide) (by omega) (h2q (by omega) (by omega)).2 ?_
                refine wp_ixor dd_X9_expandSet_94 ?_
                rw [x1]
                refine wp_iload dd_X9_expandSet_95 rfl ?_
                refine wp_callV (M' := mm_X9_addMultiple) (As := [zI (33 * s), zI ((ro * 8 + c) * 9), zI fr, zI sg]) (rest := []) dd_X9_expandSet_97 lk_X9_94 mV_X9_addMultiple kk_48 (zlt rfl) ⟨_, _, rfl⟩ rfl (by decide) (by decide) (Nat.le_of_ble_eq_true rfl) rfl (sp_X9_addMultiple (9000 * (sz - 1 - c)) RE (33 * s) ((ro * 8 + c) * 9) fr sg (by omega) (by omega) (by omega) (by rw [hg]; exact zsg_01 s c) (by rw [m5]; omega) (by rw [m52, m5]; have := hOf.1; omega) (fun x q1 q2 => by rw [m5] at q2; rw [hce x q1 (by omega)]; have := hcR x q1 (by omega); omega) (fun x q1 q2 => by rw [m52] at q2; rw [h4 _ (by have := hOf.1; omega), hOf.2.1 x q1 q2]; have := hMr fr x; omega) ⟨by omega, by omega, hW⟩ (fun me fm gm => ?_))
                show zw_Wp l mm_X9_expandSet (zS L) 100 [some (zR 48), some (zI s), some (zI p), some (zI (33 * s)), some (zI ro), some (zI RE), some (zI sg), some (zI c), none] [] me 0 0 Q
                have hx9 : ∀ x : Int, 0 ≤ x → x ≤ RE → me 51 (33 * s + x) = mm 51 (33 * s + x) + zsg s c * zcn (cell ro c) (zmt cell p sz.toNat s.toNat (s - 2 ^ c.toNat)) x 9 := fun x q1 q2 => by rw [fm x q1 q2, hzc x q1 q2, hg, hfr]
                rw [hfr] at hzr
                refine wp_iload dd_X9_expandSet_100 rfl ?_
                have hz1 := zsg_01 s c
                refine wp_inegC dd_X9_expandSet_102 (by omega) ?_
                refine wp_istore (ls2 := [some (zR 48), some (zI s), some (zI p), some (zI (33 * s)), some (zI ro), some (zI RE), some (zI (-sg)), some (zI c), none]) dd_X9_expandSet_103 rfl (by decide) rfl ?_
                refine wp_iincC (ls2 := [some (zR 48), some (zI s), some (zI p), some (zI (33 * s)), some (zI ro), some (zI RE), some (zI (-sg)), some (zI (c + (-1))), none]) dd_X9_expandSet_105 rfl rfl (by decide) (by omega) rfl ?_
                refine wp_goto (tgt := 66) dd_X9_expandSet_108 (by decide) ?_
                refine ih66 (-sg) (c + (-1)) me ?_ ?_ ?_ ?_ ?_ ?_ ?_ ?_
                · first | omega | assumption | (intros; omega)
                · first | omega | assumption | (intros; omega)
                · rw [(zsg_st (s := s) (c := c) (by omega) (by omega)).1]
                  first
                  | (rw [if_pos hbit, hg])
                  | (rw [if_neg hbit, hg])
                · intro x q1 q2
                  have e9 := h2 x q1 q2
                  rw [show (c + 1).toNat = (c + -1 + 1).toNat + 1 by omega, zmsm, show (((c + -1 + 1).toNat : Nat) : Int) = c by omega, show (c + -1 + 1).toNat = c.toNat by omega] at e9
                  rw [show (c + -1 + 1).toNat = c.toNat by omega]
                  first
                  | (rw [if_neg hbit] at e9; omega)
                  | (rw [if_pos hbit, ← hro] at e9; rw [hx9 x q1 q2]; omega)
                · intro x q1 q2
                  have w9 := hW x q1 q2
                  first
                  | (rw [hx9 x q1 q2]
                     have w8 := hzr x q1 q2
                     rcases zsg_01 s c with z9 | z9 <;> rw [z9] <;> omega)
                  | omega
                · first | assumption | (intro a ha; rw [gm.1 a ha]; exact h3 a ha)
                · first | assumption | (intro y hy; rw [gm.2 y hy]; exact h4 y hy)
                · omega
        refine lp66 (((sz - 1) + 1 : Int)).toNat.succ 1 (sz - 1) mm ?_ ?_ ?_ ?_ ?_ ?_ ?_ ?_
        · first | omega | assumption | (intros; omega)
        · first | omega | assumption | (intros; omega)
        · obtain ⟨x, hx⟩ := Int.eq_ofNat_of_zero_le (show 0 ≤ s by omega)
          have := zsg_top sz.toNat (List.mem_range.mpr (by omega)) x (List.mem_range.mpr (by omega)) (by rw [← hx]; exact hs.2)
          rw [← hx, show ((sz.toNat : Nat) : Int) = sz by omega] at this; exact this.symm
        · intro x q1 q2; rw [h2 x q1 (by omega), show (sz - 1 + 1).toNat = sz.toNat by omega]; omega
        · intro x q1 q2; rw [h2 x q1 (by omega)]; omega
        · first | omega | assumption | (intros; omega)
        · first | omega | assumption | (intros; omega)
        · omega
      · skip
        refine wp_aload_n dd_X9_expandSet_39 rfl ?_
        refine wp_getR dd_X9_expandSet_40 gf_X9_18 rfl kk_48 (by decide) (zlt rfl) rr_48_2 ?_
        refine wp_iload_n dd_X9_expandSet_43 rfl ?_
        refine wp_iload dd_X9_expandSet_44 rfl ?_
        refine wp_iaddC dd_X9_expandSet_46 (by omega) ?_
        refine wp_iconst dd_X9_expandSet_47 (zr_lit rfl) ?_
        refine wp_iast dd_X9_expandSet_48 kk_51 (zlt rfl) (by omega) (by omega) ?_
        refine wp_iincC (ls2 := [some (zR 48), some (zI s), some (zI p), some (zI (33 * s)), some (zI ro), some (zI RE), some (zI (d + 1)), none, none]) dd_X9_expandSet_49 rfl rfl (by decide) (by omega) rfl ?_
        refine wp_goto (tgt := 32) dd_X9_expandSet_52 (by decide) ?_
        refine ih32 (d + 1) (zu mm 51 ((33 * s) + d) 0) ?_ ?_ ?_ ?_ ?_ ?_
        · first | omega | assumption | (intros; omega)
        · first | omega | assumption | (intros; omega)
        · intro x q1 q2
          by_cases hx : x = d
          · subst hx; rw [zu_s]
          · rw [zu_n (Or.inr (by omega))]; exact h2 x q1 (by omega)
        · intro a ha; rw [zu_row ha]; exact h3 a ha
        · intro y hy; rw [zu_n (Or.inr (by omega))]; exact h4 y hy
        · omega
  refine lp32 ((RE + 1 - 0 : Int)).toNat.succ 0 mem ?_ ?_ ?_ ?_ ?_ ?_
  · first | omega | assumption | (intros; omega)
  · first | omega | assumption | (intros; omega)
  · intros; omega
  · intros; rfl
  · intros; rfl
  · omega

set_option maxRecDepth 100000 in
set_option maxHeartbeats 4000000 in
theorem sp_X9_expand {l : Launch} {L : Nat} {mem : zMem} {Q : zQ} (cell : Int → Int → Int → Int) (sz sp : Int) (p : Int) (hp : 2 ≤ p ∧ p ≤ 31) (hz : mem 48 4 = sz ∧ 0 ≤ sz ∧ sz ≤ 8) (hsp : mem 48 5 = sp ∧ 0 ≤ sp ∧ sp ≤ 8 ∧ sz * sp ≤ 32) (ht : zTc mem sz cell) (hcr : zCr cell p sz) (hch : ∀ r c k : Int, 0 ≤ r ∧ r < sz → 0 ≤ c ∧ c < sz → sp < k → k < 9 → cell r c k = 0) (k : ∀ (mem2 : zMem), (∀ d : Int, 0 ≤ d → d < 41 → mem2 49 d = zdet cell p sz d) → (∀ a : Nat, a ≠ 49 → a ≠ 51 → a ≠ 52 → mem2 a = mem a) → Q none (zS L) mem2) : zw_Ok l mm_X9_expand [zR 48, zI p] (zS L) mem Q := by
  refine zw_okA (fun hA => ?_)
  have rg_p : -2147483648 ≤ p ∧ p < 2147483648 := hA.2.1
  refine zw_enter (by decide) (Nat.le_of_ble_eq_true rfl) rfl ?_
  show zw_Wp l mm_X9_expand (zS L) 0 [some (zR 48), some (zI p), none, none] [] mem 0 0 Q
  obtain ⟨n1, n2, n3, n4⟩ := z2_sz hz.2
  refine wp_aload_n dd_X9_expand_0 rfl ?_
  refine wp_getR dd_X9_expand_1 gf_X9_9 rfl kk_48 (by decide) (zlt rfl) rr_48_0 ?_
  refine wp_iconst dd_X9_expand_4 (zr_lit rfl) ?_
  refine wp_callS (M' := mm_J7_fill_53178) (As := [zR 49, zI 0]) (rest := []) dd_X9_expand_5 lk_X9_46 mS_J7_fill_53178 rfl (by decide) (by decide) (Nat.le_of_ble_eq_true rfl) rfl (sp_J7_fill_53178  49 0 kk_49 (zlt rfl) (by decide) (fun mf ff gf => ?_))
  show zw_Wp l mm_X9_expand (zS L) 8 [some (zR 48), some (zI p), none, none] [] mf 0 0 Q
  have m48 : mf 48 = mem 48 := gf 48 (by decide)
  have m4 : mf 48 4 = sz := by rw [m48]; exact hz.1
  refine wp_aload_n dd_X9_expand_8 rfl ?_
  refine wp_getR dd_X9_expand_9 gf_X9_18 rfl kk_48 (by decide) (zlt rfl) rr_48_2 ?_
  refine wp_iconst dd_X9_expand_12 (zr_lit rfl) ?_
  refine wp_iconst dd_X9_expand_13 (zr_lit rfl) ?_
  refine wp_iast dd_X9_expand_14 kk_51 (zlt rfl) (by omega) (by omega) ?_
  refine wp_aload_n dd_X9_expand_15 rfl ?_
  refine wp_getR dd_X9_expand_16 gf_X9_21 rfl kk_48 (by decide) (zlt rfl) rr_48_3 ?_
  refine wp_iconst dd_X9_expand_19 (zr_lit rfl) ?_
  refine wp_iconst dd_X9_expand_20 (zr_lit rfl) ?_
  refine wp_iast dd_X9_expand_21 kk_52 (zlt rfl) (by omega) (by omega) ?_
  refine wp_iconst dd_X9_expand_22 (zr_lit rfl) ?_
  refine wp_aload_n dd_X9_expand_23 rfl ?_
  refine wp_getV 4 (v := mf 48 4) rfl (by rw [zu_row (by decide), zu_row (by decide)]) dd_X9_expand_24 gf_X9_39 rfl kk_48 (by decide) (zlt rfl) ?_
  refine wp_ishlP dd_X9_expand_27 (by decide) (by rw [m4]; omega) (by rw [m4]; omega) ?_
  rw [m4]
  refine wp_iconst dd_X9_expand_28 (zr_lit rfl) ?_
  refine wp_isubC dd_X9_expand_29 (by omega) ?_
  refine wp_istore_n (ls2 := [some (zR 48), some (zI p), some (zI ((1 * 2 ^ sz.toNat) - 1)), none]) dd_X9_expand_30 rfl (by decide) rfl ?_
  refine wp_iconst dd_X9_expand_31 (zr_lit rfl) ?_
  refine wp_istore_n (ls2 := [some (zR 48), some (zI p), some (zI ((1 * 2 ^ sz.toNat) - 1)), some (zI 1)]) dd_X9_expand_32 rfl (by decide) rfl ?_
  have lp33 : ∀ (nf : Nat) (s : Int) (mm : zMem), (1 ≤ s) → (s ≤ 1 * 2 ^ sz.toNat) → (∀ y : Int, 0 ≤ y → y < s → zMs mm (zmt cell p sz.toNat s.toNat y) y sp) → (∀ a : Nat, a ≠ 51 → a ≠ 52 → mm a = mf a) → (257 - s) < (nf : Int) → zw_Wp l mm_X9_expand (zS L) 33 [some (zR 48), some (zI p), some (zI ((1 * 2 ^ sz.toNat) - 1)), some (zI s)] [] mm 0 0 Q := by
    intro nf
    induction nf with
    | zero =>
      intro s mm s0 s1 hO h3 hmu
      exfalso; omega
    | succ nf ih33 =>
      intro s mm s0 s1 hO h3 hmu
      have k48 : mm 48 = mem 48 := (h3 48 (by decide) (by decide)).trans m48
      refine wp_iload_n dd_X9_expand_33 rfl ?_
      refine wp_iload_n dd_X9_expand_34 rfl ?_
      refine wp_icmp_gt (tgt := 50) dd_X9_expand_35 (by decide) (fun c35_1 => ?_) (fun c35_1 => ?_)
      · skip
        have hse : s = 1 * 2 ^ sz.toNat := by omega
        have hA9 := hO (1 * 2 ^ sz.toNat - 1) (by omega) (by omega)
        have hdt : ∀ d : Int, zmt cell p sz.toNat s.toNat (1 * 2 ^ sz.toNat - 1) d = zdet cell p sz d := fun d => by unfold zdet; rw [hse, n3]
        have hA8 := hA9.1
        refine wp_iconst dd_X9_expand_50 (zr_lit rfl) ?_
        refine wp_istore_n (ls2 := [some (zR 48), some (zI p), some (zI ((1 * 2 ^ sz.toNat) - 1)), some (zI 0)]) dd_X9_expand_51 rfl (by decide) rfl ?_
        have lp52 : ∀ (nf : Nat) (i : Int) (mn : zMem), (0 ≤ i) → (i ≤ mm 52 (1 * 2 ^ sz.toNat - 1) + 1) → (∀ x : Int, 0 ≤ x → x < 41 → mn 49 x = if x < i then zdet cell p sz x else 0) → (∀ a : Nat, a ≠ 49 → mn a = mm a) → (40 - i) < (nf : Int) → zw_Wp l mm_X9_expand (zS L) 52 [some (zR 48), some (zI p), some (zI ((1 * 2 ^ sz.toNat) - 1)), some (zI i)] [] mn 0 0 Q := by
          intro nf
          induction nf with
          | zero =>
            intro i mn i0 i1 k2 k3 hmu
            exfalso; omega
          | succ nf ih52 =>
            intro i mn i0 i1 k2 k3 hmu
            have k52 : mn 52 = mm 52 := k3 52 (by decide)
            have k52a : mn 52 (1 * 2 ^ sz.toNat - 1) = mm 52 (1 * 2 ^ sz.toNat - 1) := by rw [k52]
            refine wp_iload_n dd_X9_expand_52 rfl ?_
            refine wp_aload_n dd_X9_expand_53 rfl ?_
            refine wp_getR dd_X9_expand_54 gf_X9_21 rfl kk_48 (by decide) (zlt rfl) rr_48_3 ?_
            refine wp_iload_n dd_X9_expand_57 rfl ?_
            refine wp_iald dd_X9_expand_58 kk_52 (zlt rfl) (by omega) (by omega) ?_
            refine wp_icmp_gt (tgt := 85) dd_X9_expand_59 (by decide) (fun c59_2 => ?_) (fun c59_2 => ?_)
            · skip
              refine wp_return (st := []) dd_X9_expand_85 rfl ?_
              refine k mn (fun d q1 q2 => ?_) (fun a h1 h2 h4 => by rw [k3 a h1, h3 a h2 h4, gf a h1])
              rw [k2 d q1 q2]
              by_cases q : d < i
              · rw [if_pos q]
              · rw [if_neg q, ← hdt]
                exact (hA9.2.2 d (by omega) q2).symm
            · skip
              refine wp_aload_n dd_X9_expand_62 rfl ?_
              refine wp_getR dd_X9_expand_63 gf_X9_9 rfl kk_48 (by decide) (zlt rfl) rr_48_0 ?_
              refine wp_iload_n dd_X9_expand_66 rfl ?_
              refine wp_aload_n dd_X9_expand_67 rfl ?_
              refine wp_getR dd_X9_expand_68 gf_X9_18 rfl kk_48 (by decide) (zlt rfl) rr_48_2 ?_
              refine wp_bipush dd_X9_expand_71 (by decide) ?_
              refine wp_iload_n dd_X9_expand_73 rfl ?_
              refine wp_imulC dd_X9_expand_74 (by omega) ?_
              refine wp_iload_n dd_X9_expand_75 rfl ?_
              refine wp_iaddC dd_X9_expand_76 (by omega) ?_
              refine wp_iald dd_X9_expand_77 kk_51 (zlt rfl) (by omega) (by omega) ?_
              refine wp_iast dd_X9_expand_78 kk_49 (zlt rfl) (by omega) (by omega) ?_
              refine wp_iincC (ls2 := [some (zR 48), some (zI p), some (zI ((1 * 2 ^ sz.toNat) - 1)), some (zI (i + 1))]) dd_X9_expand_79 rfl rfl (by decide) (by omega) rfl ?_
              refine wp_goto (tgt := 52) dd_X9_expand_82 (by decide) ?_
              refine ih52 (i + 1) (zu mn 49 i (mn 51 ((33 * ((1 * 2 ^ sz.toNat) - 1)) + i))) ?_ ?_ ?_ ?_ ?_
              · first | omega | assumption | (intros; omega)
              · first | omega | assumption | (intros; omega)
              · intro x q1 q2
                by_cases hx : x = i
                · subst hx
                  rw [zu_s, if_pos (by omega), k3 51 (by decide), ← hdt]
                  exact hA9.2.1 x q1 (by omega)
                · rw [zu_n (Or.inr hx), k2 x q1 q2]
                  by_cases q : x < i
                  · rw [if_pos q, if_pos (by omega)]
                  · rw [if_neg q, if_neg (by omega)]
              · intro a ha; rw [zu_row ha]; exact k3 a ha
              · omega
        refine lp52 ((40 - 0 : Int)).toNat.succ 0 mm ?_ ?_ ?_ ?_ ?_
        · first | omega | assumption | (intros; omega)
        · first | omega | assumption | (intros; omega)
        · intro x q1 q2; rw [if_neg (by omega), h3 49 (by decide) (by decide)]; exact ff x q1 q2
        · intros; rfl
        · omega
      · skip
        refine wp_aload_n dd_X9_expand_38 rfl ?_
        refine wp_iload_n dd_X9_expand_39 rfl ?_
        refine wp_iload_n dd_X9_expand_40 rfl ?_
        refine wp_callV (M' := mm_X9_expandSet) (As := [zI s, zI p]) (rest := []) dd_X9_expand_41 lk_X9_86 mV_X9_expandSet kk_48 (zlt rfl) ⟨_, _, rfl⟩ rfl (by decide) (by decide) (Nat.le_of_ble_eq_true rfl) rfl (sp_X9_expandSet cell sz sp s p hp (by rw [k48]; exact hz) (by rw [k48]; exact hsp) (fun r c k9 q1 q2 q3 => by rw [h3 50 (by decide) (by decide), gf 50 (by decide)]; exact ht r c k9 q1 q2 q3) hcr hch (by omega) hO (fun me fe ge => ?_))
        show zw_Wp l mm_X9_expand (zS L) 44 [some (zR 48), some (zI p), some (zI ((1 * 2 ^ sz.toNat) - 1)), some (zI s)] [] me 0 0 Q
        refine wp_iincC (ls2 := [some (zR 48), some (zI p), some (zI ((1 * 2 ^ sz.toNat) - 1)), some (zI (s + 1))]) dd_X9_expand_44 rfl rfl (by decide) (by omega) rfl ?_
        refine wp_goto (tgt := 33) dd_X9_expand_47 (by decide) ?_
        refine ih33 (s + 1) me ?_ ?_ ?_ ?_ ?_
        · first | omega | assumption | (intros; omega)
        · first | omega | assumption | (intros; omega)
        · exact fe
        · intro a q1 q2; rw [ge a q1 q2]; exact h3 a q1 q2
        · omega
  refine lp33 ((257 - 1 : Int)).toNat.succ 1 (zu (zu mf 51 0 1) 52 0 0) ?_ ?_ ?_ ?_ ?_
  · first | omega | assumption | (intros; omega)
  · first | omega | assumption | (intros; omega)
  · intro y q1 q2
    rw [show y = 0 by omega]
    refine ⟨⟨by rw [zu_s]; decide, by rw [zu_s]; show (0 : Int) ≤ 0 * sp; omega, by rw [zu_s]; decide⟩, fun d q3 q4 => ?_, fun d q3 q4 => ?_⟩
    · rw [zu_s] at q4
      rw [zu_row (by decide), show 33 * 0 + d = 0 by omega, zu_s]
      show (1 : Int) = zmt cell p sz.toNat 1 0 d
      rw [zmt_1, if_pos (by omega)]
    · rw [zu_s] at q3
      show zmt cell p sz.toNat 1 0 d = 0
      rw [zmt_1, if_neg (by omega)]
  · intro a q1 q2; rw [zu_row q2, zu_row q1]
  · omega

