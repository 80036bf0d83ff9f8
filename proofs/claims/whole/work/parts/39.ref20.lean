/-! ===== the reference: products ===== -/
def zZ (c d : Int → Int) (p u v : Int) : Int := zcv c d u v 25 % p
/-- no term too high, so far -/
def zOk (Z : Int → Int → Int) (o x y : Int) : Prop := (o = 1 ∧ ∀ u v : Int, 0 ≤ u → u < 9 → 0 ≤ v → v < 9 → (u < x ∨ (u = x ∧ v < y)) → (5 ≤ u ∨ 5 ≤ v) → Z u v = 0) ∨ (o = 0 ∧ ∃ u v : Int, (0 ≤ u ∧ u < 9 ∧ 0 ≤ v ∧ v < 9) ∧ (5 ≤ u ∨ 5 ≤ v) ∧ Z u v ≠ 0)
theorem zOk.row {Z : Int → Int → Int} {o x : Int} (h : zOk Z o x 9) : zOk Z o (x + 1) 0 := by
  rcases h with ⟨h1, h2⟩ | h
  · exact Or.inl ⟨h1, fun u v q1 q2 q3 q4 q5 q6 => h2 u v q1 q2 q3 q4 (by omega) q6⟩
  · exact Or.inr h
theorem zOk.low {Z : Int → Int → Int} {o x y : Int} (h : zOk Z o x y) (hx : x < 5) (hy : y < 5) : zOk Z o x (y + 1) := by
  rcases h with ⟨h1, h2⟩ | h
  · refine Or.inl ⟨h1, fun u v q1 q2 q3 q4 q5 q6 => ?_⟩
    exact h2 u v q1 q2 q3 q4 (by omega) q6
  · exact Or.inr h
theorem zOk.good {Z : Int → Int → Int} {o x y : Int} (h : zOk Z o x y) (hz : Z x y = 0) : zOk Z o x (y + 1) := by
  rcases h with ⟨h1, h2⟩ | h
  · refine Or.inl ⟨h1, fun u v q1 q2 q3 q4 q5 q6 => ?_⟩
    by_cases e : u = x ∧ v = y
    · rw [e.1, e.2]; exact hz
    · exact h2 u v q1 q2 q3 q4 (by omega) q6
  · exact Or.inr h
theorem zOk.bad {Z : Int → Int → Int} {x y z : Int} (hx : 0 ≤ x ∧ x < 9) (hy : 0 ≤ y ∧ y < 9) (h5 : 5 ≤ x ∨ 5 ≤ y) (hz : Z x y ≠ 0) : zOk Z 0 x z := Or.inr ⟨rfl, x, y, ⟨hx.1, hx.2, hy.1, hy.2⟩, h5, hz⟩
theorem zcv_in {c d : Int → Int} {x y p s : Int} {t : Nat} (hs : s = zcv c d x y t % p) (h : 0 ≤ x - (t : Int) / 5 ∧ x - (t : Int) / 5 ≤ 4 ∧ 0 ≤ y - (t : Int) % 5 ∧ y - (t : Int) % 5 ≤ 4) : (s + c t * d (5 * (x - (t : Int) / 5) + (y - (t : Int) % 5))) % p = zcv c d x y (t + 1) % p := by
  rw [hs, zcv, if_pos h, Int.emod_add_emod]
theorem zcv_out {c d : Int → Int} {x y p s : Int} {t : Nat} (hs : s = zcv c d x y t % p) (h : ¬ (0 ≤ x - (t : Int) / 5 ∧ x - (t : Int) / 5 ≤ 4 ∧ 0 ≤ y - (t : Int) % 5 ∧ y - (t : Int) % 5 ≤ 4)) : s = zcv c d x y (t + 1) % p := by
  rw [hs, zcv, if_neg h, Int.mul_zero, Int.add_zero]

set_option maxRecDepth 100000 in
set_option maxHeartbeats 4000000 in
theorem sp_X11_multiplies {l : Launch} {L : Nat} {mem : zMem} {Q : zQ}  (a : Int) (b : Int) (hp : zPr (mem 67 1)) (hTx : zT mem a) (hTy : zT mem b) (k : ∀ (r : Int) (mem2 : zMem), (∀ u v : Int, 0 ≤ u → u < 5 → 0 ≤ v → v < 5 → mem2 75 (5 * u + v) = zZ (zco mem a) (zco mem b) (mem 67 1) u v) → (zOk (zZ (zco mem a) (zco mem b) (mem 67 1)) r 9 0) → (∀ q : Nat, q ≠ 75 → mem2 q = mem q) → Q (some (zI r)) (zS L) mem2) : zw_Ok l mm_X11_multiplies [zR 67, zI a, zI b] (zS L) mem Q := by
  refine zw_okA (fun hA => ?_)
  have rg_a : -2147483648 ≤ a ∧ a < 2147483648 := hA.2.1
  have rg_b : -2147483648 ≤ b ∧ b < 2147483648 := hA.2.2.1
  refine zw_enter (by decide) (Nat.le_of_ble_eq_true rfl) rfl ?_
  show zw_Wp l mm_X11_multiplies (zS L) 0 [some (zR 67), some (zI a), some (zI b), none, none, none, none, none, none, none] [] mem 0 0 Q
  have hpr := hp.rg
  have hra := zco_rg hp hTx
  have hrb := zco_rg hp hTy
  refine wp_iconst dd_X11_multiplies_0 (zr_lit rfl) ?_
  refine wp_istore_n (ls2 := [some (zR 67), some (zI a), some (zI b), some (zI 0), none, none, none, none, none, none]) dd_X11_multiplies_1 rfl (by decide) rfl ?_
  have lp2 : ∀ (nf : Nat) (i : Int) (m1 : zMem), (0 ≤ i) → (i ≤ 25) → (∀ q : Nat, q ≠ 75 → m1 q = mem q) → (25 - i) < (nf : Int) → zw_Wp l mm_X11_multiplies (zS L) 2 [some (zR 67), some (zI a), some (zI b), some (zI i), none, none, none, none, none, none] [] m1 0 0 Q := by
    intro nf
    induction nf with
    | zero =>
      intro i m1 i0 i1 f1 hmu
      exfalso; omega
    | succ nf ih2 =>
      intro i m1 i0 i1 f1 hmu
      refine wp_iload_n dd_X11_multiplies_2 rfl ?_
      refine wp_bipush dd_X11_multiplies_3 (by decide) ?_
      refine wp_icmp_ge (tgt := 21) dd_X11_multiplies_5 (by decide) (fun c5_1 => ?_) (fun c5_1 => ?_)
      · skip
        refine wp_iconst dd_X11_multiplies_21 (zr_lit rfl) ?_
        refine wp_istore_n (ls2 := [some (zR 67), some (zI a), some (zI b), some (zI 1), none, none, none, none, none, none]) dd_X11_multiplies_22 rfl (by decide) rfl ?_
        refine wp_iconst dd_X11_multiplies_23 (zr_lit rfl) ?_
        refine wp_istore (ls2 := [some (zR 67), some (zI a), some (zI b), some (zI 1), some (zI 0), none, none, none, none, none]) dd_X11_multiplies_24 rfl (by decide) rfl ?_
        have lp26 : ∀ (nf : Nat) (o : Int) (x : Int) (mm : zMem), (0 ≤ x) → (x ≤ 9) → (o = 0 ∨ o = 1) → (∀ u v : Int, 0 ≤ u → u < x → u < 5 → 0 ≤ v → v < 5 → mm 75 (5 * u + v) = zZ (zco mem a) (zco mem b) (mem 67 1) u v) → (zOk (zZ (zco mem a) (zco mem b) (mem 67 1)) o x 0) → (∀ q : Nat, q ≠ 75 → mm q = mem q) → (9 - x) < (nf : Int) → zw_Wp l mm_X11_multiplies (zS L) 26 [some (zR 67), some (zI a), some (zI b), some (zI o), some (zI x), none, none, none, none, none] [] mm 0 0 Q := by
          intro nf
          induction nf with
          | zero =>
            intro o x mm x0 x1 ho h2 h3 fr hmu
            exfalso; omega
          | succ nf ih26 =>
            intro o x mm x0 x1 ho h2 h3 fr hmu
            refine wp_iload dd_X11_multiplies_26 rfl ?_
            refine wp_bipush dd_X11_multiplies_28 (by decide) ?_
            refine wp_icmp_ge (tgt := 187) dd_X11_multiplies_30 (by decide) (fun c30_2 => ?_) (fun c30_2 => ?_)
            · skip
              refine wp_iload_n dd_X11_multiplies_187 rfl ?_
              refine wp_zreturn (st := []) dd_X11_multiplies_188 rfl (by omega) ?_
              exact k _ _ (fun u v q1 q2 q3 q4 => h2 u v q1 (by omega) q2 q3 q4) (by rw [show (9 : Int) = x by omega]; exact h3) fr
            · skip
              refine wp_iconst dd_X11_multiplies_33 (zr_lit rfl) ?_
              refine wp_istore (ls2 := [some (zR 67), some (zI a), some (zI b), some (zI o), some (zI x), some (zI 0), none, none, none, none]) dd_X11_multiplies_34 rfl (by decide) rfl ?_
              have lp36 : ∀ (nf : Nat) (o : Int) (y : Int) (mn : zMem), (0 ≤ y) → (y ≤ 9) → (o = 0 ∨ o = 1) → (∀ u v : Int, 0 ≤ u → 0 ≤ v → (u < x ∨ (u = x ∧ v < y)) → u < 5 → v < 5 → mn 75 (5 * u + v) = zZ (zco mem a) (zco mem b) (mem 67 1) u v) → (zOk (zZ (zco mem a) (zco mem b) (mem 67 1)) o x y) → (∀ q : Nat, q ≠ 75 → mn q = mem q) → (9 - y) < (nf : Int) → zw_Wp l mm_X11_multiplies (zS L) 36 [some (zR 67), some (zI a), some (zI b), some (zI o), some (zI x), some (zI y), none, none, none, none] [] mn 0 0 Q := by
                intro nf
                induction nf with
                | zero =>
                  intro o y mn y0 y1 ko k2 k3 kr hmu
                  exfalso; omega
                | succ nf ih36 =>
                  intro o y mn y0 y1 ko k2 k3 kr hmu
                  have hz1 : (Int32.ofInt o &&& Int32.ofInt 1).toInt = o := by rcases ko with rfl | rfl <;> rfl
                  have hz0 : (Int32.ofInt o &&& Int32.ofInt 0).toInt = 0 := by rcases ko with rfl | rfl <;> rfl
                  have hm1 : mn 67 1 = mem 67 1 := by rw [kr 67 (by decide)]
                  have hkk : zkp mem mn := ⟨hm1, by rw [kr 67 (by decide)], kr 69 (by decide), kr 70 (by decide), kr 71 (by decide)⟩
                  refine wp_iload dd_X11_multiplies_36 rfl ?_
                  refine wp_bipush dd_X11_multiplies_38 (by decide) ?_
                  refine wp_icmp_ge (tgt := 181) dd_X11_multiplies_40 (by decide) (fun c40_3 => ?_) (fun c40_3 => ?_)
                  · skip
                    refine wp_iincC (ls2 := [some (zR 67), some (zI a), some (zI b), some (zI o), some (zI (x + 1)), some (zI y), none, none, none, none]) dd_X11_multiplies_181 rfl rfl (by decide) (by omega) rfl ?_
                    refine wp_goto (tgt := 26) dd_X11_multiplies_184 (by decide) ?_
                    refine wp_ls (zw_sub_of (a := [some (zR 67), some (zI a), some (zI b), some (zI o), some (zI (x + 1)), none, none, none, none, none]) (And.intro rfl (And.intro rfl (And.intro rfl (And.intro rfl (And.intro rfl (trivial))))))) ?_
                    refine ih26 o (x + 1) mn ?_ ?_ ?_ ?_ ?_ ?_ ?_
                    · first | omega | assumption | (intros; omega)
                    · first | omega | assumption | (intros; omega)
                    · first | omega | assumption | (intros; omega)
                    · intro u v q1 q2 q3 q4 q5; exact k2 u v q1 q4 (by omega) q3 q5
                    · exact zOk.row (by rw [show (9 : Int) = y by omega]; exact k3)
                    · exact kr
                    · omega
                  · skip
                    refine wp_iconst dd_X11_multiplies_43 (zr_lit rfl) ?_
                    refine wp_istore (ls2 := [some (zR 67), some (zI a), some (zI b), some (zI o), some (zI x), some (zI y), some (zI 0), none, none, none]) dd_X11_multiplies_44 rfl (by decide) rfl ?_
                    refine wp_iconst dd_X11_multiplies_46 (zr_lit rfl) ?_
                    refine wp_istore (ls2 := [some (zR 67), some (zI a), some (zI b), some (zI o), some (zI x), some (zI y), some (zI 0), some (zI 0), none, none]) dd_X11_multiplies_47 rfl (by decide) rfl ?_
                    have lp49 : ∀ (nf : Nat) (s : Int) (t : Int), (0 ≤ t) → (t ≤ 25) → (s = zcv (zco mem a) (zco mem b) x y t.toNat % mem 67 1) → (25 - t) < (nf : Int) → zw_Wp l mm_X11_multiplies (zS L) 49 [some (zR 67), some (zI a), some (zI b), some (zI o), some (zI x), some (zI y), some (zI s), some (zI t), none, none] [] mn 0 0 Q := by
                      intro nf
                      induction nf with
                      | zero =>
                        intro s t t0 t1 ts hmu
                        exfalso; omega
                      | succ nf ih49 =>
                        intro s t t0 t1 ts hmu
                        have hs9 : 0 ≤ s ∧ s < mem 67 1 := by rw [ts]; exact zm_rg (by omega)
                        refine wp_iload dd_X11_multiplies_49 rfl ?_
                        refine wp_bipush dd_X11_multiplies_51 (by decide) ?_
                        refine wp_icmp_ge (tgt := 133) dd_X11_multiplies_53 (by decide) (fun c53_4 => ?_) (fun c53_4 => ?_)
                        · skip
                          refine wp_iload dd_X11_multiplies_133 rfl ?_
                          refine wp_iconst dd_X11_multiplies_135 (zr_lit rfl) ?_
                          refine wp_icmp_ge (tgt := 162) dd_X11_multiplies_136 (by decide) (fun c136_5 => ?_) (fun c136_5 => ?_)
                          · skip
                            refine wp_iload_n dd_X11_multiplies_162 rfl ?_
                            refine wp_iload dd_X11_multiplies_163 rfl ?_
                            refine wp_if_ne (tgt := 172) dd_X11_multiplies_165 (by decide) (fun c165_6 => ?_) (fun c165_6 => ?_)
                            · skip
                              refine wp_iconst dd_X11_multiplies_172 (zr_lit rfl) ?_
                              refine wp_iand dd_X11_multiplies_173 ?_
                              refine wp_istore_n (ls2 := [some (zR 67), some (zI a), some (zI b), some (zI ((Int32.ofInt o &&& Int32.ofInt 0).toInt)), some (zI x), some (zI y), some (zI s), some (zI t), none, none]) dd_X11_multiplies_174 rfl (by decide) rfl ?_
                              refine wp_iincC (ls2 := [some (zR 67), some (zI a), some (zI b), some (zI ((Int32.ofInt o &&& Int32.ofInt 0).toInt)), some (zI x), some (zI (y + 1)), some (zI s), some (zI t), none, none]) dd_X11_multiplies_175 rfl rfl (by decide) (by omega) rfl ?_
                              refine wp_goto (tgt := 36) dd_X11_multiplies_178 (by decide) ?_
                              refine wp_ls (zw_sub_of (a := [some (zR 67), some (zI a), some (zI b), some (zI ((Int32.ofInt o &&& Int32.ofInt 0).toInt)), some (zI x), some (zI (y + 1)), none, none, none, none]) (And.intro rfl (And.intro rfl (And.intro rfl (And.intro rfl (And.intro rfl (And.intro rfl (trivial)))))))) ?_
                              refine ih36 ((Int32.ofInt o &&& Int32.ofInt 0).toInt) (y + 1) mn ?_ ?_ ?_ ?_ ?_ ?_ ?_
                              · first | omega | assumption | (intros; omega)
                              · first | omega | assumption | (intros; omega)
                              · first | exact ko | (rw [hz1]; exact ko) | (rw [hz0]; exact Or.inl rfl)
                              · intro u v q1 q2 q3 q4 q5
                                first
                                | (by_cases e : u = x ∧ v = y
                                   · rw [e.1, e.2, zu_s, ts, show t.toNat = 25 by omega]; rfl
                                   · rw [zu_n (Or.inr (by omega))]; exact k2 u v q1 q2 (by omega) q4 q5)
                                | exact k2 u v q1 q2 (by omega) q4 q5
                              · have hZ : zZ (zco mem a) (zco mem b) (mem 67 1) x y = s := by rw [ts, show t.toNat = 25 by omega]; rfl
                                first
                                | exact k3.low (by omega) (by omega)
                                | (rw [hz1]; exact k3.good (by rw [hZ]; omega))
                                | (rw [hz0]; exact zOk.bad ⟨x0, by omega⟩ ⟨y0, by omega⟩ (by omega) (by rw [hZ]; omega))
                              · intro q hq
                                first | (rw [zu_row hq]; exact kr q hq) | exact kr q hq
                              · omega
                            · skip
                              refine wp_iconst dd_X11_multiplies_168 (zr_lit rfl) ?_
                              refine wp_goto (tgt := 173) dd_X11_multiplies_169 (by decide) ?_
                              refine wp_iand dd_X11_multiplies_173 ?_
                              refine wp_istore_n (ls2 := [some (zR 67), some (zI a), some (zI b), some (zI ((Int32.ofInt o &&& Int32.ofInt 1).toInt)), some (zI x), some (zI y), some (zI s), some (zI t), none, none]) dd_X11_multiplies_174 rfl (by decide) rfl ?_
                              refine wp_iincC (ls2 := [some (zR 67), some (zI a), some (zI b), some (zI ((Int32.ofInt o &&& Int32.ofInt 1).toInt)), some (zI x), some (zI (y + 1)), some (zI s), some (zI t), none, none]) dd_X11_multiplies_175 rfl rfl (by decide) (by omega) rfl ?_
                              refine wp_goto (tgt := 36) dd_X11_multiplies_178 (by decide) ?_
                              refine wp_ls (zw_sub_of (a := [some (zR 67), some (zI a), some (zI b), some (zI ((Int32.ofInt o &&& Int32.ofInt 1).toInt)), some (zI x), some (zI (y + 1)), none, none, none, none]) (And.intro rfl (And.intro rfl (And.intro rfl (And.intro rfl (And.intro rfl (And.intro rfl (trivial)))))))) ?_
                              refine ih36 ((Int32.ofInt o &&& Int32.ofInt 1).toInt) (y + 1) mn ?_ ?_ ?_ ?_ ?_ ?_ ?_
                              · first | omega | assumption | (intros; omega)
                              · first | omega | assumption | (intros; omega)
                              · first | exact ko | (rw [hz1]; exact ko) | (rw [hz0]; exact Or.inl rfl)
                              · intro u v q1 q2 q3 q4 q5
                                first
                                | (by_cases e : u = x ∧ v = y
                                   · rw [e.1, e.2, zu_s, ts, show t.toNat = 25 by omega]; rfl
                                   · rw [zu_n (Or.inr (by omega))]; exact k2 u v q1 q2 (by omega) q4 q5)
                                | exact k2 u v q1 q2 (by omega) q4 q5
                              · have hZ : zZ (zco mem a) (zco mem b) (mem 67 1) x y = s := by rw [ts, show t.toNat = 25 by omega]; rfl
                                first
                                | exact k3.low (by omega) (by omega)
                                | (rw [hz1]; exact k3.good (by rw [hZ]; omega))
                                | (rw [hz0]; exact zOk.bad ⟨x0, by omega⟩ ⟨y0, by omega⟩ (by omega) (by rw [hZ]; omega))
                              · intro q hq
                                first | (rw [zu_row hq]; exact kr q hq) | exact kr q hq
                              · omega
                          · skip
                            refine wp_iload dd_X11_multiplies_139 rfl ?_
                            refine wp_iconst dd_X11_multiplies_141 (zr_lit rfl) ?_
                            refine wp_icmp_ge (tgt := 162) dd_X11_multiplies_142 (by decide) (fun c142_7 => ?_) (fun c142_7 => ?_)
                            · skip
                              refine wp_iload_n dd_X11_multiplies_162 rfl ?_
                              refine wp_iload dd_X11_multiplies_163 rfl ?_
                              refine wp_if_ne (tgt := 172) dd_X11_multiplies_165 (by decide) (fun c165_8 => ?_) (fun c165_8 => ?_)
                              · skip
                                refine wp_iconst dd_X11_multiplies_172 (zr_lit rfl) ?_
                                refine wp_iand dd_X11_multiplies_173 ?_
                                refine wp_istore_n (ls2 := [some (zR 67), some (zI a), some (zI b), some (zI ((Int32.ofInt o &&& Int32.ofInt 0).toInt)), some (zI x), some (zI y), some (zI s), some (zI t), none, none]) dd_X11_multiplies_174 rfl (by decide) rfl ?_
                                refine wp_iincC (ls2 := [some (zR 67), some (zI a), some (zI b), some (zI ((Int32.ofInt o &&& Int32.ofInt 0).toInt)), some (zI x), some (zI (y + 1)), some (zI s), some (zI t), none, none]) dd_X11_multiplies_175 rfl rfl (by decide) (by omega) rfl ?_
                                refine wp_goto (tgt := 36) dd_X11_multiplies_178 (by decide) ?_
                                refine wp_ls (zw_sub_of (a := [some (zR 67), some (zI a), some (zI b), some (zI ((Int32.ofInt o &&& Int32.ofInt 0).toInt)), some (zI x), some (zI (y + 1)), none, none, none, none]) (And.intro rfl (And.intro rfl (And.intro rfl (And.intro rfl (And.intro rfl (And.intro rfl (trivial)))))))) ?_
                                refine ih36 ((Int32.ofInt o &&& Int32.ofInt 0).toInt) (y + 1) mn ?_ ?_ ?_ ?_ ?_ ?_ ?_
                                · first | omega | assumption | (intros; omega)
                                · first | omega | assumption | (intros; omega)
                                · first | exact ko | (rw [hz1]; exact ko) | (rw [hz0]; exact Or.inl rfl)
                                · intro u v q1 q2 q3 q4 q5
                                  first
                                  | (by_cases e : u = x ∧ v = y
                                     · rw [e.1, e.2, zu_s, ts, show t.toNat = 25 by omega]; rfl
                                     · rw [zu_n (Or.inr (by omega))]; exact k2 u v q1 q2 (by omega) q4 q5)
                                  | exact k2 u v q1 q2 (by omega) q4 q5
                                · have hZ : zZ (zco mem a) (zco mem b) (mem 67 1) x y = s := by rw [ts, show t.toNat = 25 by omega]; rfl
                                  first
                                  | exact k3.low (by omega) (by omega)
                                  | (rw [hz1]; exact k3.good (by rw [hZ]; omega))
                                  | (rw [hz0]; exact zOk.bad ⟨x0, by omega⟩ ⟨y0, by omega⟩ (by omega) (by rw [hZ]; omega))
                                · intro q hq
                                  first | (rw [zu_row hq]; exact kr q hq) | exact kr q hq
                                · omega
                              · skip
                                refine wp_iconst dd_X11_multiplies_168 (zr_lit rfl) ?_
                                refine wp_goto (tgt := 173) dd_X11_multiplies_169 (by decide) ?_
                                refine wp_iand dd_X11_multiplies_173 ?_
                                refine wp_istore_n (ls2 := [some (zR 67), some (zI a), some (zI b), some (zI ((Int32.ofInt o &&& Int32.ofInt 1).toInt)), some (zI x), some (zI y), some (zI s), some (zI t), none, none]) dd_X11_multiplies_174 rfl (by decide) rfl ?_
                                refine wp_iincC (ls2 := [some (zR 67), some (zI a), some (zI b), some (zI ((Int32.ofInt o &&& Int32.ofInt 1).toInt)), some (zI x), some (zI (y + 1)), some (zI s), some (zI t), none, none]) dd_X11_multiplies_175 rfl rfl (by decide) (by omega) rfl ?_
                                refine wp_goto (tgt := 36) dd_X11_multiplies_178 (by decide) ?_
                                refine wp_ls (zw_sub_of (a := [some (zR 67), some (zI a), some (zI b), some (zI ((Int32.ofInt o &&& Int32.ofInt 1).toInt)), some (zI x), some (zI (y + 1)), none, none, none, none]) (And.intro rfl (And.intro rfl (And.intro rfl (And.intro rfl (And.intro rfl (And.intro rfl (trivial)))))))) ?_
                                refine ih36 ((Int32.ofInt o &&& Int32.ofInt 1).toInt) (y + 1) mn ?_ ?_ ?_ ?_ ?_ ?_ ?_
                                · first | omega | assumption | (intros; omega)
                                · first | omega | assumption | (intros; omega)
                                · first | exact ko | (rw [hz1]; exact ko) | (rw [hz0]; exact Or.inl rfl)
                                · intro u v q1 q2 q3 q4 q5
                                  first
                                  | (by_cases e : u = x ∧ v = y
                                     · rw [e.1, e.2, zu_s, ts, show t.toNat = 25 by omega]; rfl
                                     · rw [zu_n (Or.inr (by omega))]; exact k2 u v q1 q2 (by omega) q4 q5)
                                  | exact k2 u v q1 q2 (by omega) q4 q5
                                · have hZ : zZ (zco mem a) (zco mem b) (mem 67 1) x y = s := by rw [ts, show t.toNat = 25 by omega]; rfl
                                  first
                                  | exact k3.low (by omega) (by omega)
                                  | (rw [hz1]; exact k3.good (by rw [hZ]; omega))
                                  | (rw [hz0]; exact zOk.bad ⟨x0, by omega⟩ ⟨y0, by omega⟩ (by omega) (by rw [hZ]; omega))
                                · intro q hq
                                  first | (rw [zu_row hq]; exact kr q hq) | exact kr q hq
                                · omega
                            · skip
                              refine wp_aload_n dd_X11_multiplies_145 rfl ?_
                              refine wp_getR dd_X11_multiplies_146 gf_X11_49 rfl kk_67 (by decide) (zlt rfl) rr_67_10 ?_
                              refine wp_iconst dd_X11_multiplies_149 (zr_lit rfl) ?_
                              refine wp_iload dd_X11_multiplies_150 rfl ?_
                              refine wp_imulC dd_X11_multiplies_152 (by omega) ?_
                              refine wp_iload dd_X11_multiplies_153 rfl ?_
                              refine wp_iaddC dd_X11_multiplies_155 (by omega) ?_
                              refine wp_iload dd_X11_multiplies_156 rfl ?_
                              refine wp_iast dd_X11_multiplies_158 kk_75 (zlt rfl) (by omega) (by omega) ?_
                              refine wp_goto (tgt := 175) dd_X11_multiplies_159 (by decide) ?_
                              refine wp_iincC (ls2 := [some (zR 67), some (zI a), some (zI b), some (zI o), some (zI x), some (zI (y + 1)), some (zI s), some (zI t), none, none]) dd_X11_multiplies_175 rfl rfl (by decide) (by omega) rfl ?_
                              refine wp_goto (tgt := 36) dd_X11_multiplies_178 (by decide) ?_
                              refine wp_ls (zw_sub_of (a := [some (zR 67), some (zI a), some (zI b), some (zI o), some (zI x), some (zI (y + 1)), none, none, none, none]) (And.intro rfl (And.intro rfl (And.intro rfl (And.intro rfl (And.intro rfl (And.intro rfl (trivial)))))))) ?_
                              refine ih36 o (y + 1) (zu mn 75 ((5 * x) + y) s) ?_ ?_ ?_ ?_ ?_ ?_ ?_
                              · first | omega | assumption | (intros; omega)
                              · first | omega | assumption | (intros; omega)
                              · first | exact ko | (rw [hz1]; exact ko) | (rw [hz0]; exact Or.inl rfl)
                              · intro u v q1 q2 q3 q4 q5
                                first
                                | (by_cases e : u = x ∧ v = y
                                   · rw [e.1, e.2, zu_s, ts, show t.toNat = 25 by omega]; rfl
                                   · rw [zu_n (Or.inr (by omega))]; exact k2 u v q1 q2 (by omega) q4 q5)
                                | exact k2 u v q1 q2 (by omega) q4 q5
                              · have hZ : zZ (zco mem a) (zco mem b) (mem 67 1) x y = s := by rw [ts, show t.toNat = 25 by omega]; rfl
                                first
                                | exact k3.low (by omega) (by omega)
                                | (rw [hz1]; exact k3.good (by rw [hZ]; omega))
                                | (rw [hz0]; exact zOk.bad ⟨x0, by omega⟩ ⟨y0, by omega⟩ (by omega) (by rw [hZ]; omega))
                              · intro q hq
                                first | (rw [zu_row hq]; exact kr q hq) | exact kr q hq
                              · omega
                        · skip
                          refine wp_iload dd_X11_multiplies_56 rfl ?_
                          refine wp_iload dd_X11_multiplies_58 rfl ?_
                          refine wp_iconst dd_X11_multiplies_60 (zr_lit rfl) ?_
                          refine wp_idivP dd_X11_multiplies_61 (by omega) (by omega) ?_
                          refine wp_isubC dd_X11_multiplies_62 (by omega) ?_
                          refine wp_istore (ls2 := [some (zR 67), some (zI a), some (zI b), some (zI o), some (zI x), some (zI y), some (zI s), some (zI t), some (zI (x - (t / 5))), none]) dd_X11_multiplies_63 rfl (by decide) rfl ?_
                          refine wp_iload dd_X11_multiplies_65 rfl ?_
                          refine wp_iload dd_X11_multiplies_67 rfl ?_
                          refine wp_iconst dd_X11_multiplies_69 (zr_lit rfl) ?_
                          refine wp_iremP dd_X11_multiplies_70 (by omega) (by omega) ?_
                          refine wp_isubC dd_X11_multiplies_71 (by omega) ?_
                          refine wp_istore (ls2 := [some (zR 67), some (zI a), some (zI b), some (zI o), some (zI x), some (zI y), some (zI s), some (zI t), some (zI (x - (t / 5))), some (zI (y - (t % 5)))]) dd_X11_multiplies_72 rfl (by decide) rfl ?_
                          refine wp_iload dd_X11_multiplies_74 rfl ?_
                          refine wp_iconst dd_X11_multiplies_76 (zr_lit rfl) ?_
                          refine wp_iconst dd_X11_multiplies_77 (zr_lit rfl) ?_
                          refine wp_callS (M' := mm_X11_isIn) (As := [zI (x - (t / 5)), zI 0, zI 4]) (rest := []) dd_X11_multiplies_78 lk_X11_21 mS_X11_isIn rfl (by decide) (by decide) (Nat.le_of_ble_eq_true rfl) rfl (sp_X11_isIn  (x - (t / 5)) 0 4  ?_)
                          show zw_Wp l mm_X11_multiplies (zS L) 81 [some (zR 67), some (zI a), some (zI b), some (zI o), some (zI x), some (zI y), some (zI s), some (zI t), some (zI (x - (t / 5))), some (zI (y - (t % 5)))] [zI (if 0 ≤ (x - (t / 5)) ∧ (x - (t / 5)) ≤ 4 then 1 else 0)] mn 0 0 Q
                          refine wp_if_eq (tgt := 127) dd_X11_multiplies_81 (by decide) (fun c81_9 => ?_) (fun c81_9 => ?_)
                          · skip
                            refine wp_iincC (ls2 := [some (zR 67), some (zI a), some (zI b), some (zI o), some (zI x), some (zI y), some (zI s), some (zI (t + 1)), some (zI (x - (t / 5))), some (zI (y - (t % 5)))]) dd_X11_multiplies_127 rfl rfl (by decide) (by omega) rfl ?_
                            refine wp_goto (tgt := 49) dd_X11_multiplies_130 (by decide) ?_
                            refine wp_ls (zw_sub_of (a := [some (zR 67), some (zI a), some (zI b), some (zI o), some (zI x), some (zI y), some (zI s), some (zI (t + 1)), none, none]) (And.intro rfl (And.intro rfl (And.intro rfl (And.intro rfl (And.intro rfl (And.intro rfl (And.intro rfl (And.intro rfl (trivial)))))))))) ?_
                            refine ih49 s (t + 1) ?_ ?_ ?_ ?_
                            · first | omega | assumption | (intros; omega)
                            · first | omega | assumption | (intros; omega)
                            · rw [show (t + 1).toNat = t.toNat + 1 by omega]
                              have ht : ((t.toNat : Nat) : Int) = t := by omega
                              first
                              | (refine zcv_out ts ?_; rw [ht]; omega)
                              | (rw [hm1, ← zcv_in ts (by rw [ht]; omega), ht, show 5 * (t / 5) + t % 5 = t by omega])
                            · omega
                          · skip
                            refine wp_iload dd_X11_multiplies_84 rfl ?_
                            refine wp_iconst dd_X11_multiplies_86 (zr_lit rfl) ?_
                            refine wp_iconst dd_X11_multiplies_87 (zr_lit rfl) ?_
                            refine wp_callS (M' := mm_X11_isIn) (As := [zI (y - (t % 5)), zI 0, zI 4]) (rest := []) dd_X11_multiplies_88 lk_X11_21 mS_X11_isIn rfl (by decide) (by decide) (Nat.le_of_ble_eq_true rfl) rfl (sp_X11_isIn  (y - (t % 5)) 0 4  ?_)
                            show zw_Wp l mm_X11_multiplies (zS L) 91 [some (zR 67), some (zI a), some (zI b), some (zI o), some (zI x), some (zI y), some (zI s), some (zI t), some (zI (x - (t / 5))), some (zI (y - (t % 5)))] [zI (if 0 ≤ (y - (t % 5)) ∧ (y - (t % 5)) ≤ 4 then 1 else 0)] mn 0 0 Q
                            refine wp_if_eq (tgt := 127) dd_X11_multiplies_91 (by decide) (fun c91_10 => ?_) (fun c91_10 => ?_)
                            · skip
                              refine wp_iincC (ls2 := [some (zR 67), some (zI a), some (zI b), some (zI o), some (zI x), some (zI y), some (zI s), some (zI (t + 1)), some (zI (x - (t / 5))), some (zI (y - (t % 5)))]) dd_X11_multiplies_127 rfl rfl (by decide) (by omega) rfl ?_
                              refine wp_goto (tgt := 49) dd_X11_multiplies_130 (by decide) ?_
                              refine wp_ls (zw_sub_of (a := [some (zR 67), some (zI a), some (zI b), some (zI o), some (zI x), some (zI y), some (zI s), some (zI (t + 1)), none, none]) (And.intro rfl (And.intro rfl (And.intro rfl (And.intro rfl (And.intro rfl (And.intro rfl (And.intro rfl (And.intro rfl (trivial)))))))))) ?_
                              refine ih49 s (t + 1) ?_ ?_ ?_ ?_
                              · first | omega | assumption | (intros; omega)
                              · first | omega | assumption | (intros; omega)
                              · rw [show (t + 1).toNat = t.toNat + 1 by omega]
                                have ht : ((t.toNat : Nat) : Int) = t := by omega
                                first
                                | (refine zcv_out ts ?_; rw [ht]; omega)
                                | (rw [hm1, ← zcv_in ts (by rw [ht]; omega), ht, show 5 * (t / 5) + t % 5 = t by omega])
                              · omega
                            · skip
                              have ha9 := hra (5 * (t / 5) + t % 5) (by omega) (by omega)
                              have hb9 := hrb (5 * (x - t / 5) + (y - t % 5)) (by omega) (by omega)
                              have hm9 := zmul_rg (a := zco mem a (5 * (t / 5) + t % 5)) (b := zco mem b (5 * (x - t / 5) + (y - t % 5))) (A := 31) (B := 31) (by omega) (by omega) (by omega) (by omega)
                              refine wp_iload dd_X11_multiplies_94 rfl ?_
                              refine wp_aload_n dd_X11_multiplies_96 rfl ?_
                              refine wp_iload_n dd_X11_multiplies_97 rfl ?_
                              refine wp_iload dd_X11_multiplies_98 rfl ?_
                              refine wp_iconst dd_X11_multiplies_100 (zr_lit rfl) ?_
                              refine wp_idivP dd_X11_multiplies_101 (by omega) (by omega) ?_
                              refine wp_iload dd_X11_multiplies_102 rfl ?_
                              refine wp_iconst dd_X11_multiplies_104 (zr_lit rfl) ?_
                              refine wp_iremP dd_X11_multiplies_105 (by omega) (by omega) ?_
                              refine wp_callV (M' := mm_X11_coefficientOf) (As := [zI a, zI (t / 5), zI (t % 5)]) (rest := [zI s]) dd_X11_multiplies_106 lk_X11_108 mV_X11_coefficientOf kk_67 (zlt rfl) ⟨_, _, rfl⟩ rfl (by decide) (by decide) (Nat.le_of_ble_eq_true rfl) rfl (sp_X11_coefficientOf2 mem a (t / 5) (t % 5) hkk hp hTx (by omega) (by omega) ?_)
                              show zw_Wp l mm_X11_multiplies (zS L) 109 [some (zR 67), some (zI a), some (zI b), some (zI o), some (zI x), some (zI y), some (zI s), some (zI t), some (zI (x - (t / 5))), some (zI (y - (t % 5)))] [zI (zco mem a (5 * (t / 5) + (t % 5))), zI s] mn 0 0 Q
                              refine wp_aload_n dd_X11_multiplies_109 rfl ?_
                              refine wp_iload_n dd_X11_multiplies_110 rfl ?_
                              refine wp_iload dd_X11_multiplies_111 rfl ?_
                              refine wp_iload dd_X11_multiplies_113 rfl ?_
                              refine wp_callV (M' := mm_X11_coefficientOf) (As := [zI b, zI (x - (t / 5)), zI (y - (t % 5))]) (rest := [zI (zco mem a (5 * (t / 5) + (t % 5))), zI s]) dd_X11_multiplies_115 lk_X11_108 mV_X11_coefficientOf kk_67 (zlt rfl) ⟨_, _, rfl⟩ rfl (by decide) (by decide) (Nat.le_of_ble_eq_true rfl) rfl (sp_X11_coefficientOf2 mem b (x - (t / 5)) (y - (t % 5)) hkk hp hTy (by omega) (by omega) ?_)
                              show zw_Wp l mm_X11_multiplies (zS L) 118 [some (zR 67), some (zI a), some (zI b), some (zI o), some (zI x), some (zI y), some (zI s), some (zI t), some (zI (x - (t / 5))), some (zI (y - (t % 5)))] [zI (zco mem b (5 * (x - (t / 5)) + (y - (t % 5)))), zI (zco mem a (5 * (t / 5) + (t % 5))), zI s] mn 0 0 Q
                              refine wp_imulC dd_X11_multiplies_118 (by omega) ?_
                              refine wp_iaddC dd_X11_multiplies_119 (by omega) ?_
                              refine wp_aload_n dd_X11_multiplies_120 rfl ?_
                              refine wp_getZ 1 rfl dd_X11_multiplies_121 gf_X11_9 rfl kk_67 (by decide) (zlt rfl) ?_
                              refine wp_iremP dd_X11_multiplies_124 (by omega) (by omega) ?_
                              refine wp_istore (ls2 := [some (zR 67), some (zI a), some (zI b), some (zI o), some (zI x), some (zI y), some (zI ((s + ((zco mem a (5 * (t / 5) + (t % 5))) * (zco mem b (5 * (x - (t / 5)) + (y - (t % 5)))))) % (mn 67 1))), some (zI t), some (zI (x - (t / 5))), some (zI (y - (t % 5)))]) dd_X11_multiplies_125 rfl (by decide) rfl ?_
                              refine wp_iincC (ls2 := [some (zR 67), some (zI a), some (zI b), some (zI o), some (zI x), some (zI y), some (zI ((s + ((zco mem a (5 * (t / 5) + (t % 5))) * (zco mem b (5 * (x - (t / 5)) + (y - (t % 5)))))) % (mn 67 1))), some (zI (t + 1)), some (zI (x - (t / 5))), some (zI (y - (t % 5)))]) dd_X11_multiplies_127 rfl rfl (by decide) (by omega) rfl ?_
                              refine wp_goto (tgt := 49) dd_X11_multiplies_130 (by decide) ?_
                              refine wp_ls (zw_sub_of (a := [some (zR 67), some (zI a), some (zI b), some (zI o), some (zI x), some (zI y), some (zI ((s + ((zco mem a (5 * (t / 5) + (t % 5))) * (zco mem b (5 * (x - (t / 5)) + (y - (t % 5)))))) % (mn 67 1))), some (zI (t + 1)), none, none]) (And.intro rfl (And.intro rfl (And.intro rfl (And.intro rfl (And.intro rfl (And.intro rfl (And.intro rfl (And.intro rfl (trivial)))))))))) ?_
                              refine ih49 ((s + ((zco mem a (5 * (t / 5) + (t % 5))) * (zco mem b (5 * (x - (t / 5)) + (y - (t % 5)))))) % (mn 67 1)) (t + 1) ?_ ?_ ?_ ?_
                              · first | omega | assumption | (intros; omega)
                              · first | omega | assumption | (intros; omega)
                              · rw [show (t + 1).toNat = t.toNat + 1 by omega]
                                have ht : ((t.toNat : Nat) : Int) = t := by omega
                                first
                                | (refine zcv_out ts ?_; rw [ht]; omega)
                                | (rw [hm1, ← zcv_in ts (by rw [ht]; omega), ht, show 5 * (t / 5) + t % 5 = t by omega])
                              · omega
                    refine lp49 ((25 - 0 : Int)).toNat.succ 0 0 ?_ ?_ ?_ ?_
                    · first | omega | assumption | (intros; omega)
                    · first | omega | assumption | (intros; omega)
                    · exact (Int.zero_emod _).symm
                    · omega
              refine lp36 ((9 - 0 : Int)).toNat.succ o 0 mm ?_ ?_ ?_ ?_ ?_ ?_ ?_
              · first | omega | assumption | (intros; omega)
              · first | omega | assumption | (intros; omega)
              · first | omega | assumption | (intros; omega)
              · intro u v q1 q2 q3 q4 q5; exact h2 u v q1 (by omega) q4 q2 q5
              · exact h3
              · exact fr
              · omega
        refine lp26 ((9 - 0 : Int)).toNat.succ 1 0 m1 ?_ ?_ ?_ ?_ ?_ ?_ ?_
        · first | omega | assumption | (intros; omega)
        · first | omega | assumption | (intros; omega)
        · first | omega | assumption | (intros; omega)
        · intros; omega
        · exact Or.inl ⟨rfl, fun u v q1 q2 q3 q4 q5 q6 => by omega⟩
        · exact f1
        · omega
      · skip
        refine wp_aload_n dd_X11_multiplies_8 rfl ?_
        refine wp_getR dd_X11_multiplies_9 gf_X11_49 rfl kk_67 (by decide) (zlt rfl) rr_67_10 ?_
        refine wp_iload_n dd_X11_multiplies_12 rfl ?_
        refine wp_iconst dd_X11_multiplies_13 (zr_lit rfl) ?_
        refine wp_iast dd_X11_multiplies_14 kk_75 (zlt rfl) (by omega) (by omega) ?_
        refine wp_iincC (ls2 := [some (zR 67), some (zI a), some (zI b), some (zI (i + 1)), none, none, none, none, none, none]) dd_X11_multiplies_15 rfl rfl (by decide) (by omega) rfl ?_
        refine wp_goto (tgt := 2) dd_X11_multiplies_18 (by decide) ?_
        refine ih2 (i + 1) (zu m1 75 i 0) ?_ ?_ ?_ ?_
        · first | omega | assumption | (intros; omega)
        · first | omega | assumption | (intros; omega)
        · intro q hq; rw [zu_row hq]; exact f1 q hq
        · omega
  refine lp2 ((25 - 0 : Int)).toNat.succ 0 mem ?_ ?_ ?_ ?_
  · first | omega | assumption | (intros; omega)
  · first | omega | assumption | (intros; omega)
  · intros; rfl
  · omega

