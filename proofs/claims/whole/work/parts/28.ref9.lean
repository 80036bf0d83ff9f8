/-! ===== the reference: tables ===== -/
def zkp (m m2 : zMem) : Prop := m2 67 1 = m 67 1 ∧ m2 67 5 = m 67 5 ∧ m2 69 = m 69 ∧ m2 70 = m 70 ∧ m2 71 = m 71
theorem zkp.co {m m2 : zMem} (h : zkp m m2) (q : Int) : zco m2 q = zco m q := by
  have e : ztd m2 q = ztd m q := by
    funext x
    unfold ztd
    rw [h.2.2.1]
  funext t
  unfold zco
  rw [e, h.1, h.2.2.2.1, h.2.2.2.2]
theorem zkp.T {m m2 : zMem} (h : zkp m m2) {q : Int} (k : zT m q) : zT m2 q := by
  have e : ztd m2 q = ztd m q := by
    funext x
    unfold ztd
    rw [h.2.2.1]
  unfold zT
  rw [e, h.1, h.2.2.2.1, h.2.2.2.2]
  exact k
theorem sp_X11_valueAt2 {l : Launch} {L : Nat} {mem : zMem} {Q : zQ} (m0 : zMem) (q x y : Int) (hk : zkp m0 mem) (hp : zPr (m0 67 1)) (hT : zT m0 q) (k : Q (some (zI (zvs (zco m0 q) x y (m0 67 1) 25))) (zS L) mem) : zw_Ok l mm_X11_valueAt [zR 67, zI q, zI x, zI y] (zS L) mem Q :=
  sp_X11_valueAt q x y (by rw [hk.1]; exact hp) (hk.T hT) (by rw [hk.co q, hk.1]; exact k)
theorem sp_X11_coefficientOf2 {l : Launch} {L : Nat} {mem : zMem} {Q : zQ} (m0 : zMem) (q i j : Int) (hk : zkp m0 mem) (hp : zPr (m0 67 1)) (hT : zT m0 q) (hi : 0 ≤ i ∧ i ≤ 4) (hj : 0 ≤ j ∧ j ≤ 4) (k : Q (some (zI (zco m0 q (5 * i + j)))) (zS L) mem) : zw_Ok l mm_X11_coefficientOf [zR 67, zI q, zI i, zI j] (zS L) mem Q :=
  sp_X11_coefficientOf q i j (by rw [hk.1]; exact hp) (hk.T hT) hi hj (by rw [zco_at hi hj, hk.co q]; exact k)
theorem sp_X11_degreeOf2 {l : Launch} {L : Nat} {mem : zMem} {Q : zQ} (m0 : zMem) (q b : Int) (hk : zkp m0 mem) (hp : zPr (m0 67 1)) (hT : zT m0 q) (hb : b = 0 ∨ b = 1 ∨ b = 2) (k : Q (some (zI (zdeg (zco m0 q) b 25))) (zS L) mem) : zw_Ok l mm_X11_degreeOf [zR 67, zI q, zI b] (zS L) mem Q :=
  sp_X11_degreeOf q b (by rw [hk.1]; exact hp) (hk.T hT) hb (by rw [hk.co q]; exact k)
theorem sp_X11_draw2 {l : Launch} {L : Nat} {mem : zMem} {Q : zQ} (z m : Int) (hz : mem 67 29 = z) (hm : 0 < m) (k : Q (some (zI (zdv (zdr z) / 256 % m))) (zS L) (zu mem 67 29 (zdr z))) : zw_Ok l mm_X11_draw [zR 67, zI m] (zS L) mem Q := by
  subst hz
  exact sp_X11_draw m hm k
theorem zdeg_4 {c : Int → Int} {le : Int} (h : le = 0 ∨ le = 1) : -9 ≤ zdeg c le 25 ∧ zdeg c le 25 ≤ 4 := by
  have h1 := (zdeg_P c le 25 (by omega)).1
  rcases h1 with h1 | ⟨h1, h2, t, h3, h4, h5, h6⟩
  · omega
  · unfold zvv at h6
    omega
theorem zpt_hi {c : Int → Int} {le a b : Int} (h : le = 0 ∨ le = 1) (ha : zdeg c le 25 < a) : zpt c le a b = 0 := by
  unfold zpt
  by_cases q : 0 ≤ a ∧ a ≤ 4 ∧ 0 ≤ b ∧ b ≤ 4
  · rw [if_pos q]
    have h2 := (zdeg_P c le 25 (by omega)).2
    by_cases hl : le = 0
    · rw [if_pos hl]
      have h3 := h2 (5 * a + b) (by omega) (by omega)
      refine Classical.byContradiction fun z => ?_
      have h4 := h3 z
      unfold zvv at h4
      rw [if_pos hl] at h4
      omega
    · rw [if_neg hl]
      have h3 := h2 (5 * b + a) (by omega) (by omega)
      refine Classical.byContradiction fun z => ?_
      have h4 := h3 z
      unfold zvv at h4
      rw [if_neg hl, if_pos (by omega)] at h4
      omega
  · rw [if_neg q]
def zTk (m : zMem) (c d : Int → Int) (le : Int) : Prop := (∀ x : Int, 0 ≤ x → x < 25 → m 76 x = zpt c le (x / 5) (x % 5)) ∧ (∀ x : Int, 0 ≤ x → x < 25 → m 77 x = zpt d le (x / 5) (x % 5)) ∧ m 67 15 = zdeg c le 25 ∧ m 67 16 = zdeg d le 25 ∧ (le = 0 ∨ le = 1)
def zsyl (c d : Int → Int) (le r cc k : Int) : Int := if r < zdeg d le 25 then zpt c le (zdeg c le 25 + r - cc) k else zpt d le (r - cc) k

set_option maxRecDepth 100000 in
set_option maxHeartbeats 4000000 in
theorem sp_X11_lots {l : Launch} {L : Nat} {mem : zMem} {Q : zQ}  (q : Int) (n : Int) (z : Int) (w : Int) (hp : zPr (mem 67 1)) (hn : 0 ≤ mem 67 5 ∧ mem 67 5 ≤ 6) (hTa : ∀ q : Int, 0 ≤ q → q < mem 67 5 → zT mem q) (k : ∀ (r : Int) (mem2 : zMem), ((zyQ mem q n w ≠ 0 ∧ r = zyQ mem q n w ∧ mem2 = zno mem (zyQ mem q n w)) ∨ (zyQ mem q n w = 0 ∧ r = (if w = 0 then zlc (fun x y => zvs (zco mem q) x y (mem 67 1) 25) z (mem 67 1) n.toNat else zlv (fun x y => zvs (zco mem q) x y (mem 67 1) 25) z (mem 67 1) n.toNat) ∧ ∃ v, mem2 = zu mem 67 29 v)) → Q (some (zI r)) (zS L) mem2) : zw_Ok l mm_X11_lots [zR 67, zI q, zI n, zI z, zI w] (zS L) mem Q := by
  refine zw_okA (fun hA => ?_)
  have rg_q : -2147483648 ≤ q ∧ q < 2147483648 := hA.2.1
  have rg_n : -2147483648 ≤ n ∧ n < 2147483648 := hA.2.2.1
  have rg_z : -2147483648 ≤ z ∧ z < 2147483648 := hA.2.2.2.1
  have rg_w : -2147483648 ≤ w ∧ w < 2147483648 := hA.2.2.2.2.1
  refine zw_enter (by decide) (Nat.le_of_ble_eq_true rfl) rfl ?_
  show zw_Wp l mm_X11_lots (zS L) 0 [some (zR 67), some (zI q), some (zI n), some (zI z), some (zI w), none, none, none, none, none, none] [] mem 0 0 Q
  have hpr := hp.rg
  have hv31 : ∀ x y, 0 ≤ (fun x y => zvs (zco mem q) x y (mem 67 1) 25) x y ∧ (fun x y => zvs (zco mem q) x y (mem 67 1) 25) x y ≤ 31 := fun x y => by have := zvs_rg (c := zco mem q) (x := x) (y := y) (p := mem 67 1) (by omega) 25; dsimp only; omega
  refine wp_aload_n dd_X11_lots_0 rfl ?_
  refine wp_iload_n dd_X11_lots_1 rfl ?_
  refine wp_callV (M' := mm_X11_isPoly) (As := [zI q]) (rest := []) dd_X11_lots_2 lk_X11_154 mV_X11_isPoly kk_67 (zlt rfl) ⟨_, _, rfl⟩ rfl (by decide) (by decide) (Nat.le_of_ble_eq_true rfl) rfl (sp_X11_isPoly  q (by first | assumption | omega) ?_)
  show zw_Wp l mm_X11_lots (zS L) 5 [some (zR 67), some (zI q), some (zI n), some (zI z), some (zI w), none, none, none, none, none, none] [zI (if 0 ≤ q ∧ q < mem 67 5 then 1 else 0)] mem 0 0 Q
  refine wp_if_ne (tgt := 12) dd_X11_lots_5 (by decide) (fun c5_1 => ?_) (fun c5_1 => ?_)
  · skip
    refine wp_iload_n dd_X11_lots_12 rfl ?_
    refine wp_iconst dd_X11_lots_13 (zr_lit rfl) ?_
    refine wp_icmp_ge (tgt := 22) dd_X11_lots_14 (by decide) (fun c14_2 => ?_) (fun c14_2 => ?_)
    · skip
      refine wp_iload_n dd_X11_lots_22 rfl ?_
      refine wp_bipush dd_X11_lots_23 (by decide) ?_
      refine wp_icmp_le (tgt := 33) dd_X11_lots_25 (by decide) (fun c25_3 => ?_) (fun c25_3 => ?_)
      · skip
        refine wp_iload dd_X11_lots_33 rfl ?_
        refine wp_iconst dd_X11_lots_35 (zr_lit rfl) ?_
        refine wp_iconst dd_X11_lots_36 (zr_lit rfl) ?_
        refine wp_callS (M' := mm_X11_isIn) (As := [zI w, zI 0, zI 1]) (rest := []) dd_X11_lots_37 lk_X11_21 mS_X11_isIn rfl (by decide) (by decide) (Nat.le_of_ble_eq_true rfl) rfl (sp_X11_isIn  w 0 1  ?_)
        show zw_Wp l mm_X11_lots (zS L) 40 [some (zR 67), some (zI q), some (zI n), some (zI z), some (zI w), none, none, none, none, none, none] [zI (if 0 ≤ w ∧ w ≤ 1 then 1 else 0)] mem 0 0 Q
        refine wp_if_ne (tgt := 48) dd_X11_lots_40 (by decide) (fun c40_4 => ?_) (fun c40_4 => ?_)
        · skip
          refine wp_iconst dd_X11_lots_48 (zr_lit rfl) ?_
          refine wp_istore (ls2 := [some (zR 67), some (zI q), some (zI n), some (zI z), some (zI w), some (zI 0), none, none, none, none, none]) dd_X11_lots_49 rfl (by decide) rfl ?_
          refine wp_iload dd_X11_lots_51 rfl ?_
          refine wp_if_eq (tgt := 63) dd_X11_lots_53 (by decide) (fun c53_5 => ?_) (fun c53_5 => absurd c53_5 (by decide))
          have hTq := hTa q (by omega) (by omega)
          refine wp_aload_n dd_X11_lots_63 rfl ?_
          refine wp_iload_n dd_X11_lots_64 rfl ?_
          refine wp_putzI 29 rfl dd_X11_lots_65 pf_X11_313 rfl kk_67 (by decide) (zlt rfl) ?_
          refine wp_iconst dd_X11_lots_68 (zr_lit rfl) ?_
          refine wp_istore (ls2 := [some (zR 67), some (zI q), some (zI n), some (zI z), some (zI w), some (zI 0), some (zI 0), none, none, none, none]) dd_X11_lots_69 rfl (by decide) rfl ?_
          refine wp_iconst dd_X11_lots_71 (zr_lit rfl) ?_
          refine wp_istore (ls2 := [some (zR 67), some (zI q), some (zI n), some (zI z), some (zI w), some (zI 0), some (zI 0), some (zI 0), none, none, none]) dd_X11_lots_72 rfl (by decide) rfl ?_
          refine wp_iconst dd_X11_lots_74 (zr_lit rfl) ?_
          refine wp_istore (ls2 := [some (zR 67), some (zI q), some (zI n), some (zI z), some (zI w), some (zI 0), some (zI 0), some (zI 0), some (zI 0), none, none]) dd_X11_lots_75 rfl (by decide) rfl ?_
          have lp77 : ∀ (nf : Nat) (c : Int) (s : Int) (i : Int) (mm : zMem), (0 ≤ i) → (i ≤ n) → (c = zlc (fun x y => zvs (zco mem q) x y (mem 67 1) 25) z (mem 67 1) i.toNat) → (s = zlv (fun x y => zvs (zco mem q) x y (mem 67 1) 25) z (mem 67 1) i.toNat) → (mm = zu mem 67 29 (zlz z i.toNat)) → (n - i) < (nf : Int) → zw_Wp l mm_X11_lots (zS L) 77 [some (zR 67), some (zI q), some (zI n), some (zI z), some (zI w), some (zI 0), some (zI c), some (zI s), some (zI i), none, none] [] mm 0 0 Q := by
            intro nf
            induction nf with
            | zero =>
              intro c s i mm h0 h1 h2 h3 h4 hmu
              exfalso; omega
            | succ nf ih77 =>
              intro c s i mm h0 h1 h2 h3 h4 hmu
              have hm1 : mm 67 1 = mem 67 1 := by rw [h4, zu_n (Or.inr (by decide))]
              have hm29 : mm 67 29 = zlz z i.toNat := by rw [h4, zu_s]
              have hc9 := zlc_rg (f := fun x y => zvs (zco mem q) x y (mem 67 1) 25) (z := z) (p := mem 67 1) i.toNat
              have hs9 := zlv_rg (z := z) (p := mem 67 1) hv31 i.toNat
              have hv9 := hv31 (zlx z (mem 67 1) i.toNat) (zly z (mem 67 1) i.toNat)
              refine wp_iload dd_X11_lots_77 rfl ?_
              refine wp_iload_n dd_X11_lots_79 rfl ?_
              refine wp_icmp_ge (tgt := 138) dd_X11_lots_80 (by decide) (fun c80_6 => ?_) (fun c80_6 => ?_)
              · skip
                refine wp_iload dd_X11_lots_138 rfl ?_
                refine wp_if_ne (tgt := 148) dd_X11_lots_140 (by decide) (fun c140_7 => ?_) (fun c140_7 => ?_)
                · skip
                  refine wp_iload dd_X11_lots_148 rfl ?_
                  refine wp_ireturn (st := []) dd_X11_lots_150 rfl ?_
                  have hw : zyQ mem q n w = 0 := by unfold zyQ; repeat first | rw [if_pos (by omega)] | rw [if_neg (by omega)]
                  refine k _ _ (Or.inr ⟨hw, ?_, _, h4⟩)
                  have hin : i = n := by omega
                  first | (rw [if_pos (by omega), ← hin]; exact h2) | (rw [if_neg (by omega), ← hin]; exact h3)
                · skip
                  refine wp_iload dd_X11_lots_143 rfl ?_
                  refine wp_goto (tgt := 150) dd_X11_lots_145 (by decide) ?_
                  refine wp_ireturn (st := []) dd_X11_lots_150 rfl ?_
                  have hw : zyQ mem q n w = 0 := by unfold zyQ; repeat first | rw [if_pos (by omega)] | rw [if_neg (by omega)]
                  refine k _ _ (Or.inr ⟨hw, ?_, _, h4⟩)
                  have hin : i = n := by omega
                  first | (rw [if_pos (by omega), ← hin]; exact h2) | (rw [if_neg (by omega), ← hin]; exact h3)
              · skip
                refine wp_aload_n dd_X11_lots_83 rfl ?_
                refine wp_aload_n dd_X11_lots_84 rfl ?_
                refine wp_getZ 1 rfl dd_X11_lots_85 gf_X11_9 rfl kk_67 (by decide) (zlt rfl) ?_
                refine wp_callV (M' := mm_X11_draw) (As := [zI (mm 67 1)]) (rest := []) dd_X11_lots_88 lk_X11_319 mV_X11_draw kk_67 (zlt rfl) ⟨_, _, rfl⟩ rfl (by decide) (by decide) (Nat.le_of_ble_eq_true rfl) rfl (sp_X11_draw2 (zlz z i.toNat) (mm 67 1) hm29 (by omega) ?_)
                show zw_Wp l mm_X11_lots (zS L) 91 [some (zR 67), some (zI q), some (zI n), some (zI z), some (zI w), some (zI 0), some (zI c), some (zI s), some (zI i), none, none] [zI (zdv (zdr (zlz z i.toNat)) / 256 % (mm 67 1))] (zu mm 67 29 (zdr (zlz z i.toNat))) 0 0 Q
                rw [hm1]
                refine wp_istore (ls2 := [some (zR 67), some (zI q), some (zI n), some (zI z), some (zI w), some (zI 0), some (zI c), some (zI s), some (zI i), some (zI (zdv (zdr (zlz z i.toNat)) / 256 % mem 67 1)), none]) dd_X11_lots_91 rfl (by decide) rfl ?_
                refine wp_aload_n dd_X11_lots_93 rfl ?_
                refine wp_iload_n dd_X11_lots_94 rfl ?_
                refine wp_iload dd_X11_lots_95 rfl ?_
                refine wp_aload_n dd_X11_lots_97 rfl ?_
                refine wp_aload_n dd_X11_lots_98 rfl ?_
                refine wp_getV 1 (v := mm 67 1) rfl (by rw [zu_n (Or.inr (by decide))]) dd_X11_lots_99 gf_X11_9 rfl kk_67 (by decide) (zlt rfl) ?_
                refine wp_callV (M' := mm_X11_draw) (As := [zI (mm 67 1)]) (rest := [zI (zdv (zdr (zlz z i.toNat)) / 256 % mem 67 1), zI q, zR 67]) dd_X11_lots_102 lk_X11_319 mV_X11_draw kk_67 (zlt rfl) ⟨_, _, rfl⟩ rfl (by decide) (by decide) (Nat.le_of_ble_eq_true rfl) rfl (sp_X11_draw2 (zdr (zlz z i.toNat)) (mm 67 1) (by rw [zu_s]) (by omega) ?_)
                show zw_Wp l mm_X11_lots (zS L) 105 [some (zR 67), some (zI q), some (zI n), some (zI z), some (zI w), some (zI 0), some (zI c), some (zI s), some (zI i), some (zI (zdv (zdr (zlz z i.toNat)) / 256 % mem 67 1)), none] [zI (zdv (zdr (zdr (zlz z i.toNat))) / 256 % (mm 67 1)), zI (zdv (zdr (zlz z i.toNat)) / 256 % mem 67 1), zI q, zR 67] (zu (zu mm 67 29 (zdr (zlz z i.toNat))) 67 29 (zdr (zdr (zlz z i.toNat)))) 0 0 Q
                rw [hm1]
                have hkk : zkp mem (zu (zu mm 67 29 (zdr (zlz z i.toNat))) 67 29 (zdr (zdr (zlz z i.toNat)))) := by
                  rw [h4]
                  refine ⟨?_, ?_, ?_, ?_, ?_⟩
                  · simp [zu]
                  · simp [zu]
                  · funext b; simp [zu]
                  · funext b; simp [zu]
                  · funext b; simp [zu]
                refine wp_callV (M' := mm_X11_valueAt) (As := [zI q, zI (zdv (zdr (zlz z i.toNat)) / 256 % mem 67 1), zI (zdv (zdr (zdr (zlz z i.toNat))) / 256 % mem 67 1)]) (rest := []) dd_X11_lots_105 lk_X11_167 mV_X11_valueAt kk_67 (zlt rfl) ⟨_, _, rfl⟩ rfl (by decide) (by decide) (Nat.le_of_ble_eq_true rfl) rfl (sp_X11_valueAt2 mem q (zdv (zdr (zlz z i.toNat)) / 256 % mem 67 1) (zdv (zdr (zdr (zlz z i.toNat))) / 256 % mem 67 1) hkk hp hTq ?_)
                show zw_Wp l mm_X11_lots (zS L) 108 [some (zR 67), some (zI q), some (zI n), some (zI z), some (zI w), some (zI 0), some (zI c), some (zI s), some (zI i), some (zI (zdv (zdr (zlz z i.toNat)) / 256 % mem 67 1)), none] [zI (zvs (zco mem q) (zdv (zdr (zlz z i.toNat)) / 256 % mem 67 1) (zdv (zdr (zdr (zlz z i.toNat))) / 256 % mem 67 1) (mem 67 1) 25)] (zu (zu mm 67 29 (zdr (zlz z i.toNat))) 67 29 (zdr (zdr (zlz z i.toNat)))) 0 0 Q
                have hv8 : zvs (zco mem q) (zdv (zdr (zlz z i.toNat)) / 256 % mem 67 1) (zdv (zdr (zdr (zlz z i.toNat))) / 256 % mem 67 1) (mem 67 1) 25 = (fun x y => zvs (zco mem q) x y (mem 67 1) 25) (zlx z (mem 67 1) i.toNat) (zly z (mem 67 1) i.toNat) := rfl
                have hv7 := hv31 (zdv (zdr (zlz z i.toNat)) / 256 % mem 67 1) (zdv (zdr (zdr (zlz z i.toNat))) / 256 % mem 67 1)
                dsimp only at hv7
                refine wp_istore (ls2 := [some (zR 67), some (zI q), some (zI n), some (zI z), some (zI w), some (zI 0), some (zI c), some (zI s), some (zI i), some (zI (zdv (zdr (zlz z i.toNat)) / 256 % mem 67 1)), some (zI (zvs (zco mem q) (zdv (zdr (zlz z i.toNat)) / 256 % mem 67 1) (zdv (zdr (zdr (zlz z i.toNat))) / 256 % mem 67 1) (mem 67 1) 25))]) dd_X11_lots_108 rfl (by decide) rfl ?_
                refine wp_iload dd_X11_lots_110 rfl ?_
                refine wp_iload dd_X11_lots_112 rfl ?_
                refine wp_if_ne (tgt := 121) dd_X11_lots_114 (by decide) (fun c114_8 => ?_) (fun c114_8 => ?_)
                · skip
                  refine wp_iconst dd_X11_lots_121 (zr_lit rfl) ?_
                  refine wp_iaddC dd_X11_lots_122 (by omega) ?_
                  refine wp_istore (ls2 := [some (zR 67), some (zI q), some (zI n), some (zI z), some (zI w), some (zI 0), some (zI (c + 0)), some (zI s), some (zI i), some (zI (zdv (zdr (zlz z i.toNat)) / 256 % mem 67 1)), some (zI (zvs (zco mem q) (zdv (zdr (zlz z i.toNat)) / 256 % mem 67 1) (zdv (zdr (zdr (zlz z i.toNat))) / 256 % mem 67 1) (mem 67 1) 25))]) dd_X11_lots_123 rfl (by decide) rfl ?_
                  refine wp_iload dd_X11_lots_125 rfl ?_
                  refine wp_iload dd_X11_lots_127 rfl ?_
                  refine wp_iaddC dd_X11_lots_129 (by omega) ?_
                  refine wp_istore (ls2 := [some (zR 67), some (zI q), some (zI n), some (zI z), some (zI w), some (zI 0), some (zI (c + 0)), some (zI (s + (zvs (zco mem q) (zdv (zdr (zlz z i.toNat)) / 256 % mem 67 1) (zdv (zdr (zdr (zlz z i.toNat))) / 256 % mem 67 1) (mem 67 1) 25))), some (zI i), some (zI (zdv (zdr (zlz z i.toNat)) / 256 % mem 67 1)), some (zI (zvs (zco mem q) (zdv (zdr (zlz z i.toNat)) / 256 % mem 67 1) (zdv (zdr (zdr (zlz z i.toNat))) / 256 % mem 67 1) (mem 67 1) 25))]) dd_X11_lots_130 rfl (by decide) rfl ?_
                  refine wp_iincC (ls2 := [some (zR 67), some (zI q), some (zI n), some (zI z), some (zI w), some (zI 0), some (zI (c + 0)), some (zI (s + (zvs (zco mem q) (zdv (zdr (zlz z i.toNat)) / 256 % mem 67 1) (zdv (zdr (zdr (zlz z i.toNat))) / 256 % mem 67 1) (mem 67 1) 25))), some (zI (i + 1)), some (zI (zdv (zdr (zlz z i.toNat)) / 256 % mem 67 1)), some (zI (zvs (zco mem q) (zdv (zdr (zlz z i.toNat)) / 256 % mem 67 1) (zdv (zdr (zdr (zlz z i.toNat))) / 256 % mem 67 1) (mem 67 1) 25))]) dd_X11_lots_132 rfl rfl (by decide) (by omega) rfl ?_
                  refine wp_goto (tgt := 77) dd_X11_lots_135 (by decide) ?_
                  refine wp_ls (zw_sub_of (a := [some (zR 67), some (zI q), some (zI n), some (zI z), some (zI w), some (zI 0), some (zI (c + 0)), some (zI (s + (zvs (zco mem q) (zdv (zdr (zlz z i.toNat)) / 256 % mem 67 1) (zdv (zdr (zdr (zlz z i.toNat))) / 256 % mem 67 1) (mem 67 1) 25))), some (zI (i + 1)), none, none]) (And.intro rfl (And.intro rfl (And.intro rfl (And.intro rfl (And.intro rfl (And.intro rfl (And.intro rfl (And.intro rfl (And.intro rfl (trivial))))))))))) ?_
                  refine ih77 (c + 0) (s + (zvs (zco mem q) (zdv (zdr (zlz z i.toNat)) / 256 % mem 67 1) (zdv (zdr (zdr (zlz z i.toNat))) / 256 % mem 67 1) (mem 67 1) 25)) (i + 1) (zu (zu mm 67 29 (zdr (zlz z i.toNat))) 67 29 (zdr (zdr (zlz z i.toNat)))) ?_ ?_ ?_ ?_ ?_ ?_
                  · first | omega | assumption | (intros; omega)
                  · first | omega | assumption | (intros; omega)
                  · rw [show (i + 1).toNat = i.toNat + 1 by omega, zlc, ← h2]
                    first | (rw [if_pos (by assumption)]) | (rw [if_neg (by assumption)])
                  · rw [show (i + 1).toNat = i.toNat + 1 by omega, zlv, ← h3]; rfl
                  · rw [show (i + 1).toNat = i.toNat + 1 by omega, zlz, h4]
                    funext a b; simp only [zu]; split <;> rfl
                  · omega
                · skip
                  refine wp_iconst dd_X11_lots_117 (zr_lit rfl) ?_
                  refine wp_goto (tgt := 122) dd_X11_lots_118 (by decide) ?_
                  refine wp_iaddC dd_X11_lots_122 (by omega) ?_
                  refine wp_istore (ls2 := [some (zR 67), some (zI q), some (zI n), some (zI z), some (zI w), some (zI 0), some (zI (c + 1)), some (zI s), some (zI i), some (zI (zdv (zdr (zlz z i.toNat)) / 256 % mem 67 1)), some (zI (zvs (zco mem q) (zdv (zdr (zlz z i.toNat)) / 256 % mem 67 1) (zdv (zdr (zdr (zlz z i.toNat))) / 256 % mem 67 1) (mem 67 1) 25))]) dd_X11_lots_123 rfl (by decide) rfl ?_
                  refine wp_iload dd_X11_lots_125 rfl ?_
                  refine wp_iload dd_X11_lots_127 rfl ?_
                  refine wp_iaddC dd_X11_lots_129 (by omega) ?_
                  refine wp_istore (ls2 := [some (zR 67), some (zI q), some (zI n), some (zI z), some (zI w), some (zI 0), some (zI (c + 1)), some (zI (s + (zvs (zco mem q) (zdv (zdr (zlz z i.toNat)) / 256 % mem 67 1) (zdv (zdr (zdr (zlz z i.toNat))) / 256 % mem 67 1) (mem 67 1) 25))), some (zI i), some (zI (zdv (zdr (zlz z i.toNat)) / 256 % mem 67 1)), some (zI (zvs (zco mem q) (zdv (zdr (zlz z i.toNat)) / 256 % mem 67 1) (zdv (zdr (zdr (zlz z i.toNat))) / 256 % mem 67 1) (mem 67 1) 25))]) dd_X11_lots_130 rfl (by decide) rfl ?_
                  refine wp_iincC (ls2 := [some (zR 67), some (zI q), some (zI n), some (zI z), some (zI w), some (zI 0), some (zI (c + 1)), some (zI (s + (zvs (zco mem q) (zdv (zdr (zlz z i.toNat)) / 256 % mem 67 1) (zdv (zdr (zdr (zlz z i.toNat))) / 256 % mem 67 1) (mem 67 1) 25))), some (zI (i + 1)), some (zI (zdv (zdr (zlz z i.toNat)) / 256 % mem 67 1)), some (zI (zvs (zco mem q) (zdv (zdr (zlz z i.toNat)) / 256 % mem 67 1) (zdv (zdr (zdr (zlz z i.toNat))) / 256 % mem 67 1) (mem 67 1) 25))]) dd_X11_lots_132 rfl rfl (by decide) (by omega) rfl ?_
                  refine wp_goto (tgt := 77) dd_X11_lots_135 (by decide) ?_
                  refine wp_ls (zw_sub_of (a := [some (zR 67), some (zI q), some (zI n), some (zI z), some (zI w), some (zI 0), some (zI (c + 1)), some (zI (s + (zvs (zco mem q) (zdv (zdr (zlz z i.toNat)) / 256 % mem 67 1) (zdv (zdr (zdr (zlz z i.toNat))) / 256 % mem 67 1) (mem 67 1) 25))), some (zI (i + 1)), none, none]) (And.intro rfl (And.intro rfl (And.intro rfl (And.intro rfl (And.intro rfl (And.intro rfl (And.intro rfl (And.intro rfl (And.intro rfl (trivial))))))))))) ?_
                  refine ih77 (c + 1) (s + (zvs (zco mem q) (zdv (zdr (zlz z i.toNat)) / 256 % mem 67 1) (zdv (zdr (zdr (zlz z i.toNat))) / 256 % mem 67 1) (mem 67 1) 25)) (i + 1) (zu (zu mm 67 29 (zdr (zlz z i.toNat))) 67 29 (zdr (zdr (zlz z i.toNat)))) ?_ ?_ ?_ ?_ ?_ ?_
                  · first | omega | assumption | (intros; omega)
                  · first | omega | assumption | (intros; omega)
                  · rw [show (i + 1).toNat = i.toNat + 1 by omega, zlc, ← h2]
                    first | (rw [if_pos (by assumption)]) | (rw [if_neg (by assumption)])
                  · rw [show (i + 1).toNat = i.toNat + 1 by omega, zlv, ← h3]; rfl
                  · rw [show (i + 1).toNat = i.toNat + 1 by omega, zlz, h4]
                    funext a b; simp only [zu]; split <;> rfl
                  · omega
          refine lp77 ((n - 0 : Int)).toNat.succ 0 0 0 (zu mem 67 29 z) ?_ ?_ ?_ ?_ ?_ ?_
          · first | omega | assumption | (intros; omega)
          · first | omega | assumption | (intros; omega)
          · rfl
          · rfl
          · rfl
          · omega
        · skip
          refine wp_bipush dd_X11_lots_43 (by decide) ?_
          refine wp_goto (tgt := 49) dd_X11_lots_45 (by decide) ?_
          refine wp_istore (ls2 := [some (zR 67), some (zI q), some (zI n), some (zI z), some (zI w), some (zI (-2)), none, none, none, none, none]) dd_X11_lots_49 rfl (by decide) rfl ?_
          refine wp_iload dd_X11_lots_51 rfl ?_
          refine wp_if_eq (tgt := 63) dd_X11_lots_53 (by decide) (fun c53_9 => absurd c53_9 (by decide)) (fun c53_9 => ?_)
          refine wp_aload_n dd_X11_lots_56 rfl ?_
          refine wp_iload dd_X11_lots_57 rfl ?_
          refine wp_callV (M' := mm_X11_no) (As := [zI (-2)]) (rest := []) dd_X11_lots_59 lk_X11_120 mV_X11_no kk_67 (zlt rfl) ⟨_, _, rfl⟩ rfl (by decide) (by decide) (Nat.le_of_ble_eq_true rfl) rfl (sp_X11_no  (-2) (by first | assumption | omega) ?_)
          show zw_Wp l mm_X11_lots (zS L) 62 [some (zR 67), some (zI q), some (zI n), some (zI z), some (zI w), some (zI (-2)), none, none, none, none, none] [zI (-2)] (zu mem 68 (-(-2)) (zwr (mem 68 (-(-2)) + 1))) 0 0 Q
          refine wp_ireturn (st := []) dd_X11_lots_62 rfl ?_
          have hw : zyQ mem q n w = (-2) := by unfold zyQ; repeat first | rw [if_pos (by omega)] | rw [if_neg (by omega)]
          exact k _ _ (Or.inl ⟨by rw [hw]; decide, hw.symm, by rw [hw]; rfl⟩)
      · skip
        refine wp_bipush dd_X11_lots_28 (by decide) ?_
        refine wp_goto (tgt := 49) dd_X11_lots_30 (by decide) ?_
        refine wp_istore (ls2 := [some (zR 67), some (zI q), some (zI n), some (zI z), some (zI w), some (zI (-6)), none, none, none, none, none]) dd_X11_lots_49 rfl (by decide) rfl ?_
        refine wp_iload dd_X11_lots_51 rfl ?_
        refine wp_if_eq (tgt := 63) dd_X11_lots_53 (by decide) (fun c53_10 => absurd c53_10 (by decide)) (fun c53_10 => ?_)
        refine wp_aload_n dd_X11_lots_56 rfl ?_
        refine wp_iload dd_X11_lots_57 rfl ?_
        refine wp_callV (M' := mm_X11_no) (As := [zI (-6)]) (rest := []) dd_X11_lots_59 lk_X11_120 mV_X11_no kk_67 (zlt rfl) ⟨_, _, rfl⟩ rfl (by decide) (by decide) (Nat.le_of_ble_eq_true rfl) rfl (sp_X11_no  (-6) (by first | assumption | omega) ?_)
        show zw_Wp l mm_X11_lots (zS L) 62 [some (zR 67), some (zI q), some (zI n), some (zI z), some (zI w), some (zI (-6)), none, none, none, none, none] [zI (-6)] (zu mem 68 (-(-6)) (zwr (mem 68 (-(-6)) + 1))) 0 0 Q
        refine wp_ireturn (st := []) dd_X11_lots_62 rfl ?_
        have hw : zyQ mem q n w = (-6) := by unfold zyQ; repeat first | rw [if_pos (by omega)] | rw [if_neg (by omega)]
        exact k _ _ (Or.inl ⟨by rw [hw]; decide, hw.symm, by rw [hw]; rfl⟩)
    · skip
      refine wp_bipush dd_X11_lots_17 (by decide) ?_
      refine wp_goto (tgt := 49) dd_X11_lots_19 (by decide) ?_
      refine wp_istore (ls2 := [some (zR 67), some (zI q), some (zI n), some (zI z), some (zI w), some (zI (-4)), none, none, none, none, none]) dd_X11_lots_49 rfl (by decide) rfl ?_
      refine wp_iload dd_X11_lots_51 rfl ?_
      refine wp_if_eq (tgt := 63) dd_X11_lots_53 (by decide) (fun c53_11 => absurd c53_11 (by decide)) (fun c53_11 => ?_)
      refine wp_aload_n dd_X11_lots_56 rfl ?_
      refine wp_iload dd_X11_lots_57 rfl ?_
      refine wp_callV (M' := mm_X11_no) (As := [zI (-4)]) (rest := []) dd_X11_lots_59 lk_X11_120 mV_X11_no kk_67 (zlt rfl) ⟨_, _, rfl⟩ rfl (by decide) (by decide) (Nat.le_of_ble_eq_true rfl) rfl (sp_X11_no  (-4) (by first | assumption | omega) ?_)
      show zw_Wp l mm_X11_lots (zS L) 62 [some (zR 67), some (zI q), some (zI n), some (zI z), some (zI w), some (zI (-4)), none, none, none, none, none] [zI (-4)] (zu mem 68 (-(-4)) (zwr (mem 68 (-(-4)) + 1))) 0 0 Q
      refine wp_ireturn (st := []) dd_X11_lots_62 rfl ?_
      have hw : zyQ mem q n w = (-4) := by unfold zyQ; repeat first | rw [if_pos (by omega)] | rw [if_neg (by omega)]
      exact k _ _ (Or.inl ⟨by rw [hw]; decide, hw.symm, by rw [hw]; rfl⟩)
  · skip
    refine wp_iconst dd_X11_lots_8 (zr_lit rfl) ?_
    refine wp_goto (tgt := 49) dd_X11_lots_9 (by decide) ?_
    refine wp_istore (ls2 := [some (zR 67), some (zI q), some (zI n), some (zI z), some (zI w), some (zI (-1)), none, none, none, none, none]) dd_X11_lots_49 rfl (by decide) rfl ?_
    refine wp_iload dd_X11_lots_51 rfl ?_
    refine wp_if_eq (tgt := 63) dd_X11_lots_53 (by decide) (fun c53_12 => absurd c53_12 (by decide)) (fun c53_12 => ?_)
    refine wp_aload_n dd_X11_lots_56 rfl ?_
    refine wp_iload dd_X11_lots_57 rfl ?_
    refine wp_callV (M' := mm_X11_no) (As := [zI (-1)]) (rest := []) dd_X11_lots_59 lk_X11_120 mV_X11_no kk_67 (zlt rfl) ⟨_, _, rfl⟩ rfl (by decide) (by decide) (Nat.le_of_ble_eq_true rfl) rfl (sp_X11_no  (-1) (by first | assumption | omega) ?_)
    show zw_Wp l mm_X11_lots (zS L) 62 [some (zR 67), some (zI q), some (zI n), some (zI z), some (zI w), some (zI (-1)), none, none, none, none, none] [zI (-1)] (zu mem 68 (-(-1)) (zwr (mem 68 (-(-1)) + 1))) 0 0 Q
    refine wp_ireturn (st := []) dd_X11_lots_62 rfl ?_
    have hw : zyQ mem q n w = (-1) := by unfold zyQ; repeat first | rw [if_pos (by omega)] | rw [if_neg (by omega)]
    exact k _ _ (Or.inl ⟨by rw [hw]; decide, hw.symm, by rw [hw]; rfl⟩)

set_option maxRecDepth 100000 in
set_option maxHeartbeats 4000000 in
theorem sp_X11_takes {l : Launch} {L : Nat} {mem : zMem} {Q : zQ}  (a : Int) (b : Int) (le : Int) (hp : zPr (mem 67 1)) (hTx : zT mem a) (hTy : zT mem b) (hl : le = 0 ∨ le = 1) (k : ∀ (mem2 : zMem), (zTk mem2 (zco mem a) (zco mem b) le) → ((∀ c : Nat, c ≠ 67 → c ≠ 76 → c ≠ 77 → mem2 c = mem c) ∧ ∀ s : Int, s ≠ 15 → s ≠ 16 → mem2 67 s = mem 67 s) → Q none (zS L) mem2) : zw_Ok l mm_X11_takes [zR 67, zI a, zI b, zI le] (zS L) mem Q := by
  refine zw_okA (fun hA => ?_)
  have rg_a : -2147483648 ≤ a ∧ a < 2147483648 := hA.2.1
  have rg_b : -2147483648 ≤ b ∧ b < 2147483648 := hA.2.2.1
  have rg_le : -2147483648 ≤ le ∧ le < 2147483648 := hA.2.2.2.1
  refine zw_enter (by decide) (Nat.le_of_ble_eq_true rfl) rfl ?_
  show zw_Wp l mm_X11_takes (zS L) 0 [some (zR 67), some (zI a), some (zI b), some (zI le), none, none, none] [] mem 0 0 Q
  have hkw : ∀ {m : zMem} {x v : Int}, zkp mem m → zkp mem (zu m 76 x v) := fun h => ⟨by rw [zu_row (by decide)]; exact h.1, by rw [zu_row (by decide)]; exact h.2.1, by rw [zu_row (by decide)]; exact h.2.2.1, by rw [zu_row (by decide)]; exact h.2.2.2.1, by rw [zu_row (by decide)]; exact h.2.2.2.2⟩
  refine wp_iconst dd_X11_takes_0 (zr_lit rfl) ?_
  refine wp_istore (ls2 := [some (zR 67), some (zI a), some (zI b), some (zI le), some (zI 0), none, none]) dd_X11_takes_1 rfl (by decide) rfl ?_
  have lp3 : ∀ (nf : Nat) (t : Int) (mm : zMem), (0 ≤ t) → (t ≤ 25) → (∀ x : Int, 0 ≤ x → x < t → mm 76 x = zpt (zco mem a) le (x / 5) (x % 5)) → (∀ x : Int, 0 ≤ x → x < t → mm 77 x = zpt (zco mem b) le (x / 5) (x % 5)) → (∀ c : Nat, c ≠ 76 → c ≠ 77 → mm c = mem c) → (25 - t) < (nf : Int) → zw_Wp l mm_X11_takes (zS L) 3 [some (zR 67), some (zI a), some (zI b), some (zI le), some (zI t), none, none] [] mm 0 0 Q := by
    intro nf
    induction nf with
    | zero =>
      intro t mm h0 h1 h2 h4 h3 hmu
      exfalso; omega
    | succ nf ih3 =>
      intro t mm h0 h1 h2 h4 h3 hmu
      have hkk : zkp mem mm := ⟨by rw [h3 67 (by decide) (by decide)], by rw [h3 67 (by decide) (by decide)], h3 69 (by decide) (by decide), h3 70 (by decide) (by decide), h3 71 (by decide) (by decide)⟩
      refine wp_iload dd_X11_takes_3 rfl ?_
      refine wp_bipush dd_X11_takes_5 (by decide) ?_
      refine wp_icmp_ge (tgt := 92) dd_X11_takes_7 (by decide) (fun c7_1 => ?_) (fun c7_1 => ?_)
      · skip
        refine wp_aload_n dd_X11_takes_92 rfl ?_
        refine wp_aload_n dd_X11_takes_93 rfl ?_
        refine wp_iload_n dd_X11_takes_94 rfl ?_
        refine wp_iload_n dd_X11_takes_95 rfl ?_
        refine wp_callV (M' := mm_X11_degreeOf) (As := [zI a, zI le]) (rest := [zR 67]) dd_X11_takes_96 lk_X11_114 mV_X11_degreeOf kk_67 (zlt rfl) ⟨_, _, rfl⟩ rfl (by decide) (by decide) (Nat.le_of_ble_eq_true rfl) rfl (sp_X11_degreeOf2 mem a le hkk hp hTx (by omega) ?_)
        show zw_Wp l mm_X11_takes (zS L) 99 [some (zR 67), some (zI a), some (zI b), some (zI le), some (zI t), none, none] [zI (zdeg (zco mem a) le 25), zR 67] mm 0 0 Q
        refine wp_putzI 15 rfl dd_X11_takes_99 pf_X11_180 rfl kk_67 (by decide) (zlt rfl) ?_
        refine wp_aload_n dd_X11_takes_102 rfl ?_
        refine wp_aload_n dd_X11_takes_103 rfl ?_
        refine wp_iload_n dd_X11_takes_104 rfl ?_
        refine wp_iload_n dd_X11_takes_105 rfl ?_
        refine wp_callV (M' := mm_X11_degreeOf) (As := [zI b, zI le]) (rest := [zR 67]) dd_X11_takes_106 lk_X11_114 mV_X11_degreeOf kk_67 (zlt rfl) ⟨_, _, rfl⟩ rfl (by decide) (by decide) (Nat.le_of_ble_eq_true rfl) rfl (sp_X11_degreeOf2 mem b le ⟨by rw [zu_n (Or.inr (by decide))]; exact hkk.1, by rw [zu_n (Or.inr (by decide))]; exact hkk.2.1, by rw [zu_row (by decide)]; exact hkk.2.2.1, by rw [zu_row (by decide)]; exact hkk.2.2.2.1, by rw [zu_row (by decide)]; exact hkk.2.2.2.2⟩ hp hTy (by omega) ?_)
        show zw_Wp l mm_X11_takes (zS L) 109 [some (zR 67), some (zI a), some (zI b), some (zI le), some (zI t), none, none] [zI (zdeg (zco mem b) le 25), zR 67] (zu mm 67 15 (zdeg (zco mem a) le 25)) 0 0 Q
        refine wp_putzI 16 rfl dd_X11_takes_109 pf_X11_183 rfl kk_67 (by decide) (zlt rfl) ?_
        refine wp_return (st := []) dd_X11_takes_112 rfl ?_
        refine k _ ⟨fun x q1 q2 => ?_, fun x q1 q2 => ?_, ?_, zu_s, hl⟩ ⟨fun c g1 g2 g3 => ?_, fun s g1 g2 => ?_⟩
        · rw [zu_row (by decide), zu_row (by decide)]; exact h2 x q1 (by omega)
        · rw [zu_row (by decide), zu_row (by decide)]; exact h4 x q1 (by omega)
        · rw [zu_n (Or.inr (by decide)), zu_s]
        · rw [zu_row g1, zu_row g1]; exact h3 c g2 g3
        · rw [zu_n (Or.inr g2), zu_n (Or.inr g1), h3 67 (by decide) (by decide)]
      · skip
        refine wp_iload dd_X11_takes_10 rfl ?_
        refine wp_iconst dd_X11_takes_12 (zr_lit rfl) ?_
        refine wp_idivP dd_X11_takes_13 (by omega) (by omega) ?_
        refine wp_istore (ls2 := [some (zR 67), some (zI a), some (zI b), some (zI le), some (zI t), some (zI (t / 5)), none]) dd_X11_takes_14 rfl (by decide) rfl ?_
        refine wp_iload dd_X11_takes_16 rfl ?_
        refine wp_iconst dd_X11_takes_18 (zr_lit rfl) ?_
        refine wp_iremP dd_X11_takes_19 (by omega) (by omega) ?_
        refine wp_istore (ls2 := [some (zR 67), some (zI a), some (zI b), some (zI le), some (zI t), some (zI (t / 5)), some (zI (t % 5))]) dd_X11_takes_20 rfl (by decide) rfl ?_
        refine wp_aload_n dd_X11_takes_22 rfl ?_
        refine wp_getR dd_X11_takes_23 gf_X11_52 rfl kk_67 (by decide) (zlt rfl) rr_67_13 ?_
        refine wp_iload dd_X11_takes_26 rfl ?_
        refine wp_iload_n dd_X11_takes_28 rfl ?_
        refine wp_if_ne (tgt := 44) dd_X11_takes_29 (by decide) (fun c29_2 => ?_) (fun c29_2 => ?_)
        · skip
          refine wp_aload_n dd_X11_takes_44 rfl ?_
          refine wp_iload_n dd_X11_takes_45 rfl ?_
          refine wp_iload dd_X11_takes_46 rfl ?_
          refine wp_iload dd_X11_takes_48 rfl ?_
          refine wp_callV (M' := mm_X11_coefficientOf) (As := [zI a, zI (t % 5), zI (t / 5)]) (rest := [zI t, zR 76]) dd_X11_takes_50 lk_X11_108 mV_X11_coefficientOf kk_67 (zlt rfl) ⟨_, _, rfl⟩ rfl (by decide) (by decide) (Nat.le_of_ble_eq_true rfl) rfl (sp_X11_coefficientOf2 mem a (t % 5) (t / 5) hkk hp hTx (by omega) (by omega) ?_)
          show zw_Wp l mm_X11_takes (zS L) 53 [some (zR 67), some (zI a), some (zI b), some (zI le), some (zI t), some (zI (t / 5)), some (zI (t % 5))] [zI (zco mem a (5 * (t % 5) + (t / 5))), zI t, zR 76] mm 0 0 Q
          refine wp_iast dd_X11_takes_53 kk_76 (zlt rfl) (by omega) (by omega) ?_
          refine wp_aload_n dd_X11_takes_54 rfl ?_
          refine wp_getR dd_X11_takes_55 gf_X11_55 rfl kk_67 (by decide) (zlt rfl) rr_67_14 ?_
          refine wp_iload dd_X11_takes_58 rfl ?_
          refine wp_iload_n dd_X11_takes_60 rfl ?_
          refine wp_if_ne (tgt := 76) dd_X11_takes_61 (by decide) (fun c61_3 => ?_) (fun c61_3 => ?_)
          · skip
            refine wp_aload_n dd_X11_takes_76 rfl ?_
            refine wp_iload_n dd_X11_takes_77 rfl ?_
            refine wp_iload dd_X11_takes_78 rfl ?_
            refine wp_iload dd_X11_takes_80 rfl ?_
            refine wp_callV (M' := mm_X11_coefficientOf) (As := [zI b, zI (t % 5), zI (t / 5)]) (rest := [zI t, zR 77]) dd_X11_takes_82 lk_X11_108 mV_X11_coefficientOf kk_67 (zlt rfl) ⟨_, _, rfl⟩ rfl (by decide) (by decide) (Nat.le_of_ble_eq_true rfl) rfl (sp_X11_coefficientOf2 mem b (t % 5) (t / 5) (hkw hkk) hp hTy (by omega) (by omega) ?_)
            show zw_Wp l mm_X11_takes (zS L) 85 [some (zR 67), some (zI a), some (zI b), some (zI le), some (zI t), some (zI (t / 5)), some (zI (t % 5))] [zI (zco mem b (5 * (t % 5) + (t / 5))), zI t, zR 77] (zu mm 76 t (zco mem a (5 * (t % 5) + (t / 5)))) 0 0 Q
            refine wp_iast dd_X11_takes_85 kk_77 (zlt rfl) (by omega) (by omega) ?_
            refine wp_iincC (ls2 := [some (zR 67), some (zI a), some (zI b), some (zI le), some (zI (t + 1)), some (zI (t / 5)), some (zI (t % 5))]) dd_X11_takes_86 rfl rfl (by decide) (by omega) rfl ?_
            refine wp_goto (tgt := 3) dd_X11_takes_89 (by decide) ?_
            refine wp_ls (zw_sub_of (a := [some (zR 67), some (zI a), some (zI b), some (zI le), some (zI (t + 1)), none, none]) (And.intro rfl (And.intro rfl (And.intro rfl (And.intro rfl (And.intro rfl (trivial))))))) ?_
            refine ih3 (t + 1) (zu (zu mm 76 t (zco mem a (5 * (t % 5) + (t / 5)))) 77 t (zco mem b (5 * (t % 5) + (t / 5)))) ?_ ?_ ?_ ?_ ?_ ?_
            · first | omega | assumption | (intros; omega)
            · first | omega | assumption | (intros; omega)
            · intro x q1 q2
              by_cases hx : x = t
              · subst hx
                rw [zu_row (by decide), zu_s]
                unfold zpt
                rw [if_pos (by omega)]
                first | (exfalso; omega) | (rw [if_pos (by assumption)]) | (rw [if_neg (by assumption)])
              · rw [zu_row (by decide), zu_n (Or.inr hx)]; exact h2 x q1 (by omega)
            · intro x q1 q2
              by_cases hx : x = t
              · subst hx
                rw [zu_s]
                unfold zpt
                rw [if_pos (by omega)]
                first | (exfalso; omega) | (rw [if_pos (by assumption)]) | (rw [if_neg (by assumption)])
              · rw [zu_n (Or.inr hx), zu_row (by decide)]; exact h4 x q1 (by omega)
            · intro c q1 q2; rw [zu_row q2, zu_row q1]; exact h3 c q1 q2
            · omega
          · skip
            refine wp_aload_n dd_X11_takes_64 rfl ?_
            refine wp_iload_n dd_X11_takes_65 rfl ?_
            refine wp_iload dd_X11_takes_66 rfl ?_
            refine wp_iload dd_X11_takes_68 rfl ?_
            refine wp_callV (M' := mm_X11_coefficientOf) (As := [zI b, zI (t / 5), zI (t % 5)]) (rest := [zI t, zR 77]) dd_X11_takes_70 lk_X11_108 mV_X11_coefficientOf kk_67 (zlt rfl) ⟨_, _, rfl⟩ rfl (by decide) (by decide) (Nat.le_of_ble_eq_true rfl) rfl (sp_X11_coefficientOf2 mem b (t / 5) (t % 5) (hkw hkk) hp hTy (by omega) (by omega) ?_)
            show zw_Wp l mm_X11_takes (zS L) 73 [some (zR 67), some (zI a), some (zI b), some (zI le), some (zI t), some (zI (t / 5)), some (zI (t % 5))] [zI (zco mem b (5 * (t / 5) + (t % 5))), zI t, zR 77] (zu mm 76 t (zco mem a (5 * (t % 5) + (t / 5)))) 0 0 Q
            refine wp_goto (tgt := 85) dd_X11_takes_73 (by decide) ?_
            refine wp_iast dd_X11_takes_85 kk_77 (zlt rfl) (by omega) (by omega) ?_
            refine wp_iincC (ls2 := [some (zR 67), some (zI a), some (zI b), some (zI le), some (zI (t + 1)), some (zI (t / 5)), some (zI (t % 5))]) dd_X11_takes_86 rfl rfl (by decide) (by omega) rfl ?_
            refine wp_goto (tgt := 3) dd_X11_takes_89 (by decide) ?_
            refine wp_ls (zw_sub_of (a := [some (zR 67), some (zI a), some (zI b), some (zI le), some (zI (t + 1)), none, none]) (And.intro rfl (And.intro rfl (And.intro rfl (And.intro rfl (And.intro rfl (trivial))))))) ?_
            refine ih3 (t + 1) (zu (zu mm 76 t (zco mem a (5 * (t % 5) + (t / 5)))) 77 t (zco mem b (5 * (t / 5) + (t % 5)))) ?_ ?_ ?_ ?_ ?_ ?_
            · first | omega | assumption | (intros; omega)
            · first | omega | assumption | (intros; omega)
            · intro x q1 q2
              by_cases hx : x = t
              · subst hx
                rw [zu_row (by decide), zu_s]
                unfold zpt
                rw [if_pos (by omega)]
                first | (exfalso; omega) | (rw [if_pos (by assumption)]) | (rw [if_neg (by assumption)])
              · rw [zu_row (by decide), zu_n (Or.inr hx)]; exact h2 x q1 (by omega)
            · intro x q1 q2
              by_cases hx : x = t
              · subst hx
                rw [zu_s]
                unfold zpt
                rw [if_pos (by omega)]
                first | (exfalso; omega) | (rw [if_pos (by assumption)]) | (rw [if_neg (by assumption)])
              · rw [zu_n (Or.inr hx), zu_row (by decide)]; exact h4 x q1 (by omega)
            · intro c q1 q2; rw [zu_row q2, zu_row q1]; exact h3 c q1 q2
            · omega
        · skip
          refine wp_aload_n dd_X11_takes_32 rfl ?_
          refine wp_iload_n dd_X11_takes_33 rfl ?_
          refine wp_iload dd_X11_takes_34 rfl ?_
          refine wp_iload dd_X11_takes_36 rfl ?_
          refine wp_callV (M' := mm_X11_coefficientOf) (As := [zI a, zI (t / 5), zI (t % 5)]) (rest := [zI t, zR 76]) dd_X11_takes_38 lk_X11_108 mV_X11_coefficientOf kk_67 (zlt rfl) ⟨_, _, rfl⟩ rfl (by decide) (by decide) (Nat.le_of_ble_eq_true rfl) rfl (sp_X11_coefficientOf2 mem a (t / 5) (t % 5) hkk hp hTx (by omega) (by omega) ?_)
          show zw_Wp l mm_X11_takes (zS L) 41 [some (zR 67), some (zI a), some (zI b), some (zI le), some (zI t), some (zI (t / 5)), some (zI (t % 5))] [zI (zco mem a (5 * (t / 5) + (t % 5))), zI t, zR 76] mm 0 0 Q
          refine wp_goto (tgt := 53) dd_X11_takes_41 (by decide) ?_
          refine wp_iast dd_X11_takes_53 kk_76 (zlt rfl) (by omega) (by omega) ?_
          refine wp_aload_n dd_X11_takes_54 rfl ?_
          refine wp_getR dd_X11_takes_55 gf_X11_55 rfl kk_67 (by decide) (zlt rfl) rr_67_14 ?_
          refine wp_iload dd_X11_takes_58 rfl ?_
          refine wp_iload_n dd_X11_takes_60 rfl ?_
          refine wp_if_ne (tgt := 76) dd_X11_takes_61 (by decide) (fun c61_4 => ?_) (fun c61_4 => ?_)
          · skip
            refine wp_aload_n dd_X11_takes_76 rfl ?_
            refine wp_iload_n dd_X11_takes_77 rfl ?_
            refine wp_iload dd_X11_takes_78 rfl ?_
            refine wp_iload dd_X11_takes_80 rfl ?_
            refine wp_callV (M' := mm_X11_coefficientOf) (As := [zI b, zI (t % 5), zI (t / 5)]) (rest := [zI t, zR 77]) dd_X11_takes_82 lk_X11_108 mV_X11_coefficientOf kk_67 (zlt rfl) ⟨_, _, rfl⟩ rfl (by decide) (by decide) (Nat.le_of_ble_eq_true rfl) rfl (sp_X11_coefficientOf2 mem b (t % 5) (t / 5) (hkw hkk) hp hTy (by omega) (by omega) ?_)
            show zw_Wp l mm_X11_takes (zS L) 85 [some (zR 67), some (zI a), some (zI b), some (zI le), some (zI t), some (zI (t / 5)), some (zI (t % 5))] [zI (zco mem b (5 * (t % 5) + (t / 5))), zI t, zR 77] (zu mm 76 t (zco mem a (5 * (t / 5) + (t % 5)))) 0 0 Q
            refine wp_iast dd_X11_takes_85 kk_77 (zlt rfl) (by omega) (by omega) ?_
            refine wp_iincC (ls2 := [some (zR 67), some (zI a), some (zI b), some (zI le), some (zI (t + 1)), some (zI (t / 5)), some (zI (t % 5))]) dd_X11_takes_86 rfl rfl (by decide) (by omega) rfl ?_
            refine wp_goto (tgt := 3) dd_X11_takes_89 (by decide) ?_
            refine wp_ls (zw_sub_of (a := [some (zR 67), some (zI a), some (zI b), some (zI le), some (zI (t + 1)), none, none]) (And.intro rfl (And.intro rfl (And.intro rfl (And.intro rfl (And.intro rfl (trivial))))))) ?_
            refine ih3 (t + 1) (zu (zu mm 76 t (zco mem a (5 * (t / 5) + (t % 5)))) 77 t (zco mem b (5 * (t % 5) + (t / 5)))) ?_ ?_ ?_ ?_ ?_ ?_
            · first | omega | assumption | (intros; omega)
            · first | omega | assumption | (intros; omega)
            · intro x q1 q2
              by_cases hx : x = t
              · subst hx
                rw [zu_row (by decide), zu_s]
                unfold zpt
                rw [if_pos (by omega)]
                first | (exfalso; omega) | (rw [if_pos (by assumption)]) | (rw [if_neg (by assumption)])
              · rw [zu_row (by decide), zu_n (Or.inr hx)]; exact h2 x q1 (by omega)
            · intro x q1 q2
              by_cases hx : x = t
              · subst hx
                rw [zu_s]
                unfold zpt
                rw [if_pos (by omega)]
                first | (exfalso; omega) | (rw [if_pos (by assumption)]) | (rw [if_neg (by assumption)])
              · rw [zu_n (Or.inr hx), zu_row (by decide)]; exact h4 x q1 (by omega)
            · intro c q1 q2; rw [zu_row q2, zu_row q1]; exact h3 c q1 q2
            · omega
          · skip
            refine wp_aload_n dd_X11_takes_64 rfl ?_
            refine wp_iload_n dd_X11_takes_65 rfl ?_
            refine wp_iload dd_X11_takes_66 rfl ?_
            refine wp_iload dd_X11_takes_68 rfl ?_
            refine wp_callV (M' := mm_X11_coefficientOf) (As := [zI b, zI (t / 5), zI (t % 5)]) (rest := [zI t, zR 77]) dd_X11_takes_70 lk_X11_108 mV_X11_coefficientOf kk_67 (zlt rfl) ⟨_, _, rfl⟩ rfl (by decide) (by decide) (Nat.le_of_ble_eq_true rfl) rfl (sp_X11_coefficientOf2 mem b (t / 5) (t % 5) (hkw hkk) hp hTy (by omega) (by omega) ?_)
            show zw_Wp l mm_X11_takes (zS L) 73 [some (zR 67), some (zI a), some (zI b), some (zI le), some (zI t), some (zI (t / 5)), some (zI (t % 5))] [zI (zco mem b (5 * (t / 5) + (t % 5))), zI t, zR 77] (zu mm 76 t (zco mem a (5 * (t / 5) + (t % 5)))) 0 0 Q
            refine wp_goto (tgt := 85) dd_X11_takes_73 (by decide) ?_
            refine wp_iast dd_X11_takes_85 kk_77 (zlt rfl) (by omega) (by omega) ?_
            refine wp_iincC (ls2 := [some (zR 67), some (zI a), some (zI b), some (zI le), some (zI (t + 1)), some (zI (t / 5)), some (zI (t % 5))]) dd_X11_takes_86 rfl rfl (by decide) (by omega) rfl ?_
            refine wp_goto (tgt := 3) dd_X11_takes_89 (by decide) ?_
            refine wp_ls (zw_sub_of (a := [some (zR 67), some (zI a), some (zI b), some (zI le), some (zI (t + 1)), none, none]) (And.intro rfl (And.intro rfl (And.intro rfl (And.intro rfl (And.intro rfl (trivial))))))) ?_
            refine ih3 (t + 1) (zu (zu mm 76 t (zco mem a (5 * (t / 5) + (t % 5)))) 77 t (zco mem b (5 * (t / 5) + (t % 5)))) ?_ ?_ ?_ ?_ ?_ ?_
            · first | omega | assumption | (intros; omega)
            · first | omega | assumption | (intros; omega)
            · intro x q1 q2
              by_cases hx : x = t
              · subst hx
                rw [zu_row (by decide), zu_s]
                unfold zpt
                rw [if_pos (by omega)]
                first | (exfalso; omega) | (rw [if_pos (by assumption)]) | (rw [if_neg (by assumption)])
              · rw [zu_row (by decide), zu_n (Or.inr hx)]; exact h2 x q1 (by omega)
            · intro x q1 q2
              by_cases hx : x = t
              · subst hx
                rw [zu_s]
                unfold zpt
                rw [if_pos (by omega)]
                first | (exfalso; omega) | (rw [if_pos (by assumption)]) | (rw [if_neg (by assumption)])
              · rw [zu_n (Or.inr hx), zu_row (by decide)]; exact h4 x q1 (by omega)
            · intro c q1 q2; rw [zu_row q2, zu_row q1]; exact h3 c q1 q2
            · omega
  refine lp3 ((25 - 0 : Int)).toNat.succ 0 mem ?_ ?_ ?_ ?_ ?_ ?_
  · first | omega | assumption | (intros; omega)
  · first | omega | assumption | (intros; omega)
  · intros; omega
  · intros; omega
  · intros; rfl
  · omega

set_option maxRecDepth 100000 in
set_option maxHeartbeats 4000000 in
theorem sp_X11_oneAt {l : Launch} {L : Nat} {mem : zMem} {Q : zQ} (c d : Int → Int) (le : Int) (a : Int) (b : Int) (hk : zTk mem c d le) (hb : 0 ≤ b) (k : Q (some (zI (zpt c le a b))) (zS L) mem) : zw_Ok l mm_X11_oneAt [zR 67, zI a, zI b] (zS L) mem Q := by
  refine zw_okA (fun hA => ?_)
  have rg_a : -2147483648 ≤ a ∧ a < 2147483648 := hA.2.1
  have rg_b : -2147483648 ≤ b ∧ b < 2147483648 := hA.2.2.1
  refine zw_enter (by decide) (Nat.le_of_ble_eq_true rfl) rfl ?_
  show zw_Wp l mm_X11_oneAt (zS L) 0 [some (zR 67), some (zI a), some (zI b)] [] mem 0 0 Q
  have hd4 := zdeg_4 (c := c) hk.2.2.2.2
  have hdd : mem 67 15 = zdeg c le 25 := hk.2.2.1
  have hcl := fun q1 q2 => hk.1 (5 * a + b) q1 q2
  refine wp_iload_n dd_X11_oneAt_0 rfl ?_
  refine wp_iconst dd_X11_oneAt_1 (zr_lit rfl) ?_
  refine wp_aload_n dd_X11_oneAt_2 rfl ?_
  refine wp_getZ 15 rfl dd_X11_oneAt_3 gf_X11_180 rfl kk_67 (by decide) (zlt rfl) ?_
  refine wp_callS (M' := mm_X11_isIn) (As := [zI a, zI 0, zI (mem 67 15)]) (rest := []) dd_X11_oneAt_6 lk_X11_21 mS_X11_isIn rfl (by decide) (by decide) (Nat.le_of_ble_eq_true rfl) rfl (sp_X11_isIn  a 0 (mem 67 15)  ?_)
  show zw_Wp l mm_X11_oneAt (zS L) 9 [some (zR 67), some (zI a), some (zI b)] [zI (if 0 ≤ a ∧ a ≤ (mem 67 15) then 1 else 0)] mem 0 0 Q
  refine wp_if_eq (tgt := 30) dd_X11_oneAt_9 (by decide) (fun c9_1 => ?_) (fun c9_1 => ?_)
  · skip
    refine wp_iconst dd_X11_oneAt_30 (zr_lit rfl) ?_
    refine wp_ireturn (st := []) dd_X11_oneAt_31 rfl ?_
    refine zq_I ?_ rfl k
    by_cases hq : zdeg c le 25 < a
    · rw [zpt_hi hk.2.2.2.2 hq]
    · unfold zpt; rw [if_neg (by omega)]
  · skip
    refine wp_iload_n dd_X11_oneAt_12 rfl ?_
    refine wp_iconst dd_X11_oneAt_13 (zr_lit rfl) ?_
    refine wp_icmp_ge (tgt := 30) dd_X11_oneAt_14 (by decide) (fun c14_2 => ?_) (fun c14_2 => ?_)
    · skip
      refine wp_iconst dd_X11_oneAt_30 (zr_lit rfl) ?_
      refine wp_ireturn (st := []) dd_X11_oneAt_31 rfl ?_
      refine zq_I ?_ rfl k
      by_cases hq : zdeg c le 25 < a
      · rw [zpt_hi hk.2.2.2.2 hq]
      · unfold zpt; rw [if_neg (by omega)]
    · skip
      refine wp_aload_n dd_X11_oneAt_17 rfl ?_
      refine wp_getR dd_X11_oneAt_18 gf_X11_52 rfl kk_67 (by decide) (zlt rfl) rr_67_13 ?_
      refine wp_iconst dd_X11_oneAt_21 (zr_lit rfl) ?_
      refine wp_iload_n dd_X11_oneAt_22 rfl ?_
      refine wp_imulC dd_X11_oneAt_23 (by omega) ?_
      refine wp_iload_n dd_X11_oneAt_24 rfl ?_
      refine wp_iaddC dd_X11_oneAt_25 (by omega) ?_
      refine wp_iald dd_X11_oneAt_26 kk_76 (zlt rfl) (by omega) (by omega) ?_
      refine wp_goto (tgt := 31) dd_X11_oneAt_27 (by decide) ?_
      refine wp_ireturn (st := []) dd_X11_oneAt_31 rfl ?_
      refine zq_I ?_ rfl k
      rw [hcl (by omega) (by omega), show (5 * a + b) / 5 = a by omega, show (5 * a + b) % 5 = b by omega]

set_option maxRecDepth 100000 in
set_option maxHeartbeats 4000000 in
theorem sp_X11_twoAt {l : Launch} {L : Nat} {mem : zMem} {Q : zQ} (c d : Int → Int) (le : Int) (a : Int) (b : Int) (hk : zTk mem c d le) (hb : 0 ≤ b) (k : Q (some (zI (zpt d le a b))) (zS L) mem) : zw_Ok l mm_X11_twoAt [zR 67, zI a, zI b] (zS L) mem Q := by
  refine zw_okA (fun hA => ?_)
  have rg_a : -2147483648 ≤ a ∧ a < 2147483648 := hA.2.1
  have rg_b : -2147483648 ≤ b ∧ b < 2147483648 := hA.2.2.1
  refine zw_enter (by decide) (Nat.le_of_ble_eq_true rfl) rfl ?_
  show zw_Wp l mm_X11_twoAt (zS L) 0 [some (zR 67), some (zI a), some (zI b)] [] mem 0 0 Q
  have hd4 := zdeg_4 (c := d) hk.2.2.2.2
  have hdd : mem 67 16 = zdeg d le 25 := hk.2.2.2.1
  have hcl := fun q1 q2 => hk.2.1 (5 * a + b) q1 q2
  refine wp_iload_n dd_X11_twoAt_0 rfl ?_
  refine wp_iconst dd_X11_twoAt_1 (zr_lit rfl) ?_
  refine wp_aload_n dd_X11_twoAt_2 rfl ?_
  refine wp_getZ 16 rfl dd_X11_twoAt_3 gf_X11_183 rfl kk_67 (by decide) (zlt rfl) ?_
  refine wp_callS (M' := mm_X11_isIn) (As := [zI a, zI 0, zI (mem 67 16)]) (rest := []) dd_X11_twoAt_6 lk_X11_21 mS_X11_isIn rfl (by decide) (by decide) (Nat.le_of_ble_eq_true rfl) rfl (sp_X11_isIn  a 0 (mem 67 16)  ?_)
  show zw_Wp l mm_X11_twoAt (zS L) 9 [some (zR 67), some (zI a), some (zI b)] [zI (if 0 ≤ a ∧ a ≤ (mem 67 16) then 1 else 0)] mem 0 0 Q
  refine wp_if_eq (tgt := 30) dd_X11_twoAt_9 (by decide) (fun c9_1 => ?_) (fun c9_1 => ?_)
  · skip
    refine wp_iconst dd_X11_twoAt_30 (zr_lit rfl) ?_
    refine wp_ireturn (st := []) dd_X11_twoAt_31 rfl ?_
    refine zq_I ?_ rfl k
    by_cases hq : zdeg d le 25 < a
    · rw [zpt_hi hk.2.2.2.2 hq]
    · unfold zpt; rw [if_neg (by omega)]
  · skip
    refine wp_iload_n dd_X11_twoAt_12 rfl ?_
    refine wp_iconst dd_X11_twoAt_13 (zr_lit rfl) ?_
    refine wp_icmp_ge (tgt := 30) dd_X11_twoAt_14 (by decide) (fun c14_2 => ?_) (fun c14_2 => ?_)
    · skip
      refine wp_iconst dd_X11_twoAt_30 (zr_lit rfl) ?_
      refine wp_ireturn (st := []) dd_X11_twoAt_31 rfl ?_
      refine zq_I ?_ rfl k
      by_cases hq : zdeg d le 25 < a
      · rw [zpt_hi hk.2.2.2.2 hq]
      · unfold zpt; rw [if_neg (by omega)]
    · skip
      refine wp_aload_n dd_X11_twoAt_17 rfl ?_
      refine wp_getR dd_X11_twoAt_18 gf_X11_55 rfl kk_67 (by decide) (zlt rfl) rr_67_14 ?_
      refine wp_iconst dd_X11_twoAt_21 (zr_lit rfl) ?_
      refine wp_iload_n dd_X11_twoAt_22 rfl ?_
      refine wp_imulC dd_X11_twoAt_23 (by omega) ?_
      refine wp_iload_n dd_X11_twoAt_24 rfl ?_
      refine wp_iaddC dd_X11_twoAt_25 (by omega) ?_
      refine wp_iald dd_X11_twoAt_26 kk_77 (zlt rfl) (by omega) (by omega) ?_
      refine wp_goto (tgt := 31) dd_X11_twoAt_27 (by decide) ?_
      refine wp_ireturn (st := []) dd_X11_twoAt_31 rfl ?_
      refine zq_I ?_ rfl k
      rw [hcl (by omega) (by omega), show (5 * a + b) / 5 = a by omega, show (5 * a + b) % 5 = b by omega]

