/-! ===== chains of remainders ===== -/
def z5 (f : Int → Int) : Int → Int := fun x => if 0 ≤ x ∧ x < 5 then f x else 0
/-- the remainder of f by g -/
def zrm (p : Int) (g f : Int → Int) : Int → Int := zqr g (zdp g 5) (zinv (g (zdp g 5)) p) p (9 - zdp g 5).toNat (z5 f)
theorem zqs_cg {g g' f f' : Int → Int} {e v p i : Int} (he : 0 ≤ e ∧ e ≤ 4) (hi : e ≤ i ∧ i ≤ 8) (hg : ∀ x : Int, 0 ≤ x → x < 5 → g x = g' x) (hf : ∀ x : Int, 0 ≤ x → x < 9 → f x = f' x) : ∀ x : Int, 0 ≤ x → x < 9 → zqs g e v p i f x = zqs g' e v p i f' x := by
  intro x q1 q2
  unfold zqs
  rw [hf x q1 q2, hf i (by omega) (by omega)]
  split
  · rw [hg _ (by omega) (by omega)]
  · rfl
theorem zqr_cg {g g' : Int → Int} {e v p : Int} (he : 0 ≤ e ∧ e ≤ 4) (hg : ∀ x : Int, 0 ≤ x → x < 5 → g x = g' x) : ∀ (k : Nat) (f f' : Int → Int), (k : Int) ≤ 9 - e → (∀ x : Int, 0 ≤ x → x < 9 → f x = f' x) → ∀ x : Int, 0 ≤ x → x < 9 → zqr g e v p k f x = zqr g' e v p k f' x
  | 0, _, _, _, h => h
  | k + 1, _, _, q, h => zqr_cg he hg k _ _ (by omega) (zqs_cg he (by omega) hg h)
theorem zrm_cg {p : Int} {g g' f f' : Int → Int} (hg : ∀ x : Int, 0 ≤ x → x < 5 → g x = g' x) (hf : ∀ x : Int, 0 ≤ x → x < 5 → f x = f' x) (h0 : 0 ≤ zdp g 5) : ∀ x : Int, 0 ≤ x → x < 9 → zrm p g f x = zrm p g' f' x := by
  have h1 := zdp_rg g 5
  unfold zrm
  rw [← zdp_cg 5 hg, ← hg (zdp g 5) h0 (by omega)]
  refine zqr_cg ⟨h0, by omega⟩ hg _ _ _ (by omega) (fun x q1 q2 => ?_)
  unfold z5
  split
  · exact hf x q1 (by omega)
  · rfl
theorem zqs_0 {g f : Int → Int} {e v p i : Int} (he : 0 ≤ e) (h1 : g e * v % p = 1) : zqs g e v p i f i = 0 := by
  unfold zqs
  rw [if_pos (by omega), show i - (i - e) = e by omega]
  have h : (f i * v % p * g e) % p = f i % p := by
    rw [Int.mul_emod, Int.emod_emod, ← Int.mul_emod, Int.mul_assoc, Int.mul_comm v (g e), Int.mul_emod, h1, Int.mul_one, Int.emod_emod]
  rw [Int.sub_emod, h, Int.sub_self, Int.zero_emod]
theorem zqr_0 {g : Int → Int} {e v p : Int} (he : 0 ≤ e) (h1 : g e * v % p = 1) : ∀ (k : Nat) (f : Int → Int), (∀ x : Int, e + k ≤ x → x < 9 → f x = 0) → ∀ x : Int, e ≤ x → x < 9 → zqr g e v p k f x = 0
  | 0, f, h, x, q1, q2 => h x (by omega) q2
  | k + 1, f, h, x, q1, q2 => by
    refine zqr_0 he h1 k _ (fun y g1 g2 => ?_) x q1 q2
    by_cases hy : y = e + k
    · rw [hy]; exact zqs_0 he h1
    · unfold zqs
      rw [if_neg (by omega)]
      exact h y (by omega) g2
theorem zrm_rg {p : Int} {g f : Int → Int} (hp : 0 < p) (hf : ∀ x : Int, 0 ≤ x → x < 5 → 0 ≤ f x ∧ f x < p) : ∀ x : Int, 0 ≤ x → x < 9 → 0 ≤ zrm p g f x ∧ zrm p g f x < p := by
  unfold zrm
  refine zqr_rg hp _ _ (fun x q1 q2 => ?_)
  unfold z5
  split
  · exact hf x q1 (by omega)
  · omega
theorem zrm_lt {p : Int} {g f : Int → Int} (hp : zPr p) (hg : ∀ x : Int, 0 ≤ x → x < 5 → 0 ≤ g x ∧ g x < p) (h0 : 0 ≤ zdp g 5) : zdp (zrm p g f) 5 < zdp g 5 := by
  have h1 := zdp_rg g 5
  have h2 := zdp_rg (zrm p g f) 5
  have h3 := zdp_at h0
  have h4 := hg _ h0 (by omega)
  by_cases hc : zdp (zrm p g f) 5 < zdp g 5
  · exact hc
  · exfalso
    have h5 := zdp_at (f := zrm p g f) (n := 5) (by omega)
    refine h5 ?_
    refine zqr_0 h0 (zinv_ok hp (by omega) h4.2).1 _ _ (fun x q1 q2 => ?_) _ (by omega) (by omega)
    omega
/-- the chain, as it is asked: n links before, w the last one's degree -/
def zrs (p k0 : Int) : Nat → Int → Int → (Int → Int) → (Int → Int) → Int
  | 0, _, _, _, _ => 0
  | F + 1, n, w, f, g => if zdp g 5 < 0 then (if k0 = -1 then n else if k0 = -2 then w else -9) else if k0 = n then zdp g 5 else zrs p k0 F (n + 1) (zdp g 5) g (zrm p g f)
theorem zrs_cg {p k0 : Int} : ∀ (F : Nat) (n w : Int) (f f' g g' : Int → Int), (∀ x : Int, 0 ≤ x → x < 5 → f x = f' x) → (∀ x : Int, 0 ≤ x → x < 5 → g x = g' x) → zrs p k0 F n w f g = zrs p k0 F n w f' g'
  | 0, _, _, _, _, _, _, _, _ => rfl
  | F + 1, n, w, f, f', g, g', hf, hg => by
    rw [zrs, zrs, ← zdp_cg 5 hg]
    by_cases h0 : zdp g 5 < 0
    · rw [if_pos h0, if_pos h0]
    · rw [if_neg h0, if_neg h0, zrs_cg F (n + 1) (zdp g 5) g g' (zrm p g f) (zrm p g' f') hg (fun x q1 q2 => zrm_cg hg hf (by omega) x q1 (by omega))]
def zrs0 (p k0 : Int) (f g : Int → Int) : Int := if zdp f 5 < 0 then zrs p k0 6 0 (-9) f g else if k0 = 0 then zdp f 5 else zrs p k0 6 1 (zdp f 5) f g

set_option maxRecDepth 100000 in
set_option maxHeartbeats 4000000 in
theorem sp_X11_remains {l : Launch} {L : Nat} {mem : zMem} {Q : zQ}  (k0 : Int) (hp : zPr (mem 67 1)) (hd1 : mem 67 24 = zdp (mem 81) 5) (hd2 : mem 67 25 = zdp (mem 82) 5) (hr1 : ∀ x : Int, 0 ≤ x → x < 5 → 0 ≤ mem 81 x ∧ mem 81 x < mem 67 1) (hr2 : ∀ x : Int, 0 ≤ x → x < 5 → 0 ≤ mem 82 x ∧ mem 82 x < mem 67 1) (k : ∀ (r : Int) (mem2 : zMem), (r = zrs0 (mem 67 1) k0 (mem 81) (mem 82)) → ((∀ q : Nat, q ≠ 67 → q ≠ 81 → q ≠ 82 → q ≠ 83 → mem2 q = mem q) ∧ ∀ s : Int, s ≠ 24 → s ≠ 25 → mem2 67 s = mem 67 s) → Q (some (zI r)) (zS L) mem2) : zw_Ok l mm_X11_remains [zR 67, zI k0] (zS L) mem Q := by
  refine zw_okA (fun hA => ?_)
  have rg_k0 : -2147483648 ≤ k0 ∧ k0 < 2147483648 := hA.2.1
  refine zw_enter (by decide) (Nat.le_of_ble_eq_true rfl) rfl ?_
  show zw_Wp l mm_X11_remains (zS L) 0 [some (zR 67), some (zI k0), none, none, none] [] mem 0 0 Q
  have hpr := hp.rg
  have g81 := zdp_rg (mem 81) 5
  have g82 := zdp_rg (mem 82) 5
  refine wp_iconst dd_X11_remains_0 (zr_lit rfl) ?_
  refine wp_istore_n (ls2 := [some (zR 67), some (zI k0), some (zI 0), none, none]) dd_X11_remains_1 rfl (by decide) rfl ?_
  refine wp_bipush dd_X11_remains_2 (by decide) ?_
  refine wp_istore_n (ls2 := [some (zR 67), some (zI k0), some (zI 0), some (zI (-9)), none]) dd_X11_remains_4 rfl (by decide) rfl ?_
  refine wp_aload_n dd_X11_remains_5 rfl ?_
  refine wp_getZ 24 rfl dd_X11_remains_6 gf_X11_234 rfl kk_67 (by decide) (zlt rfl) ?_
  refine wp_if_lt (tgt := 30) dd_X11_remains_9 (by decide) (fun c9_1 => ?_) (fun c9_1 => ?_)
  · skip
    have lp30 : ∀ (nf : Nat) (n : Int) (w : Int) (mm : zMem) (F : Nat), (0 ≤ n) → (mm 67 25 = zdp (mm 82) 5) → (n + mm 67 25 ≤ 5) → (mm 67 25 + 2 ≤ F) → (∀ x : Int, 0 ≤ x → x < 5 → 0 ≤ mm 81 x ∧ mm 81 x < mem 67 1) → (∀ x : Int, 0 ≤ x → x < 5 → 0 ≤ mm 82 x ∧ mm 82 x < mem 67 1) → ((∀ q : Nat, q ≠ 67 → q ≠ 81 → q ≠ 82 → q ≠ 83 → mm q = mem q) ∧ ∀ s : Int, s ≠ 24 → s ≠ 25 → mm 67 s = mem 67 s) → (zrs (mem 67 1) k0 F n w (mm 81) (mm 82) = zrs0 (mem 67 1) k0 (mem 81) (mem 82)) → ((F : Int)) < (nf : Int) → zw_Wp l mm_X11_remains (zS L) 30 [some (zR 67), some (zI k0), some (zI n), some (zI w), none] [] mm 0 0 Q := by
      intro nf
      induction nf with
      | zero =>
        intro n w mm F n0 a2 n1 hF r1 r2 fr h2 hmu
        exfalso; omega
      | succ nf ih30 =>
        intro n w mm F n0 a2 n1 hF r1 r2 fr h2 hmu
        have hm1 : mm 67 1 = mem 67 1 := fr.2 1 (by decide) (by decide)
        have gm := zdp_rg (mm 82) 5
        refine wp_aload_n dd_X11_remains_30 rfl ?_
        refine wp_getZ 25 rfl dd_X11_remains_31 gf_X11_237 rfl kk_67 (by decide) (zlt rfl) ?_
        refine wp_if_lt (tgt := 141) dd_X11_remains_34 (by decide) (fun c34_2 => ?_) (fun c34_2 => ?_)
        · skip
          refine wp_iload_n dd_X11_remains_141 rfl ?_
          refine wp_iconst dd_X11_remains_142 (zr_lit rfl) ?_
          refine wp_icmp_ne (tgt := 150) dd_X11_remains_143 (by decide) (fun c143_3 => ?_) (fun c143_3 => ?_)
          · skip
            refine wp_iload_n dd_X11_remains_150 rfl ?_
            refine wp_bipush dd_X11_remains_151 (by decide) ?_
            refine wp_icmp_ne (tgt := 160) dd_X11_remains_153 (by decide) (fun c153_4 => ?_) (fun c153_4 => ?_)
            · skip
              refine wp_bipush dd_X11_remains_160 (by decide) ?_
              refine wp_ireturn (st := []) dd_X11_remains_162 rfl ?_
              refine k _ _ ?_ fr
              rw [← h2]
              obtain ⟨F9, rfl⟩ : ∃ F9, F = F9 + 1 := ⟨F - 1, by omega⟩
              rw [zrs, if_pos (by omega)]
              first | rw [if_pos (by omega)] | rw [if_neg (by omega), if_pos (by omega)] | rw [if_neg (by omega), if_neg (by omega)]
            · skip
              refine wp_iload_n dd_X11_remains_156 rfl ?_
              refine wp_goto (tgt := 162) dd_X11_remains_157 (by decide) ?_
              refine wp_ireturn (st := []) dd_X11_remains_162 rfl ?_
              refine k _ _ ?_ fr
              rw [← h2]
              obtain ⟨F9, rfl⟩ : ∃ F9, F = F9 + 1 := ⟨F - 1, by omega⟩
              rw [zrs, if_pos (by omega)]
              first | rw [if_pos (by omega)] | rw [if_neg (by omega), if_pos (by omega)] | rw [if_neg (by omega), if_neg (by omega)]
          · skip
            refine wp_iload_n dd_X11_remains_146 rfl ?_
            refine wp_goto (tgt := 162) dd_X11_remains_147 (by decide) ?_
            refine wp_ireturn (st := []) dd_X11_remains_162 rfl ?_
            refine k _ _ ?_ fr
            rw [← h2]
            obtain ⟨F9, rfl⟩ : ∃ F9, F = F9 + 1 := ⟨F - 1, by omega⟩
            rw [zrs, if_pos (by omega)]
            first | rw [if_pos (by omega)] | rw [if_neg (by omega), if_pos (by omega)] | rw [if_neg (by omega), if_neg (by omega)]
        · skip
          refine wp_iload_n dd_X11_remains_37 rfl ?_
          refine wp_iload_n dd_X11_remains_38 rfl ?_
          refine wp_icmp_ne (tgt := 47) dd_X11_remains_39 (by decide) (fun c39_5 => ?_) (fun c39_5 => ?_)
          · skip
            refine wp_aload_n dd_X11_remains_47 rfl ?_
            refine wp_getZ 25 rfl dd_X11_remains_48 gf_X11_237 rfl kk_67 (by decide) (zlt rfl) ?_
            refine wp_istore_n (ls2 := [some (zR 67), some (zI k0), some (zI n), some (zI (mm 67 25)), none]) dd_X11_remains_51 rfl (by decide) rfl ?_
            refine wp_iincC (ls2 := [some (zR 67), some (zI k0), some (zI (n + 1)), some (zI (mm 67 25)), none]) dd_X11_remains_52 rfl rfl (by decide) (by omega) rfl ?_
            refine wp_aload_n dd_X11_remains_55 rfl ?_
            refine wp_aload_n dd_X11_remains_56 rfl ?_
            refine wp_getR dd_X11_remains_57 gf_X11_67 rfl kk_67 (by decide) (zlt rfl) rr_67_21 ?_
            refine wp_callV (M' := mm_X11_takesLeft) (As := [zR 81]) (rest := []) dd_X11_remains_60 lk_X11_243 mV_X11_takesLeft kk_67 (zlt rfl) ⟨_, _, rfl⟩ rfl (by decide) (by decide) (Nat.le_of_ble_eq_true rfl) rfl (sp_X11_takesLeft  81 kk_81 (zlt rfl) (by decide) (fun me f1 g1 => ?_))
            show zw_Wp l mm_X11_remains (zS L) 63 [some (zR 67), some (zI k0), some (zI (n + 1)), some (zI (mm 67 25)), none] [] me 0 0 Q
            have he67 : me 67 = mm 67 := g1 67 (by decide)
            have he82 : me 82 = mm 82 := g1 82 (by decide)
            have he25 : me 67 25 = mm 67 25 := by rw [he67]
            have hL : ∀ x : Int, 0 ≤ x → x < 9 → me 83 x = z5 (mm 81) x := fun x q1 q2 => by
              rw [f1 x, if_pos ⟨q1, q2⟩]; unfold z5
              by_cases hx : x < 5
              · rw [if_pos hx, if_pos ⟨q1, hx⟩]
              · rw [if_neg hx, if_neg (by omega)]
            refine wp_aload_n dd_X11_remains_63 rfl ?_
            refine wp_aload_n dd_X11_remains_64 rfl ?_
            refine wp_getR dd_X11_remains_65 gf_X11_70 rfl kk_67 (by decide) (zlt rfl) rr_67_22 ?_
            refine wp_aload_n dd_X11_remains_68 rfl ?_
            refine wp_getZ 25 rfl dd_X11_remains_69 gf_X11_237 rfl kk_67 (by decide) (zlt rfl) ?_
            refine wp_callV (M' := mm_X11_divides) (As := [zR 82, zI (me 67 25)]) (rest := []) dd_X11_remains_72 lk_X11_247 mV_X11_divides kk_67 (zlt rfl) ⟨_, _, rfl⟩ rfl (by decide) (by decide) (Nat.le_of_ble_eq_true rfl) rfl (sp_X11_divides  82 (me 67 25) (by rw [he67, hm1]; exact hp) kk_82 (zlt rfl) (by decide) (by omega) (by rw [he67, he82, hm1]; exact r2) (by intro x q1 q2; rw [he67, hm1, hL x q1 q2]; unfold z5; split; exact r1 x q1 (by omega); omega) (fun mf f2 g2 => ?_))
            show zw_Wp l mm_X11_remains (zS L) 75 [some (zR 67), some (zI k0), some (zI (n + 1)), some (zI (mm 67 25)), none] [] mf 0 0 Q
            have key : ∀ x : Int, 0 ≤ x → x < 9 → mf 83 x = zrm (mem 67 1) (mm 82) (mm 81) x := by
              rw [f2, he67, he82, hm1, a2]
              exact zqr_cg (by omega) (fun _ _ _ => rfl) _ _ _ (by omega) hL
            refine wp_iconst dd_X11_remains_75 (zr_lit rfl) ?_
            refine wp_istore (ls2 := [some (zR 67), some (zI k0), some (zI (n + 1)), some (zI (mm 67 25)), some (zI 0)]) dd_X11_remains_76 rfl (by decide) rfl ?_
            have lp78 : ∀ (nf : Nat) (j : Int) (mn : zMem), (0 ≤ j) → (j ≤ 5) → (∀ x : Int, 0 ≤ x → x < 5 → mn 81 x = (if x < j then mf 82 x else mf 81 x) ∧ mn 82 x = if x < j then mf 83 x else mf 82 x) → (∀ q : Nat, q ≠ 81 → q ≠ 82 → mn q = mf q) → (5 - j) < (nf : Int) → zw_Wp l mm_X11_remains (zS L) 78 [some (zR 67), some (zI k0), some (zI (n + 1)), some (zI (mm 67 25)), some (zI j)] [] mn 0 0 Q := by
              intro nf
              induction nf with
              | zero =>
                intro j mn j0 j1 j2 j3 hmu
                exfalso; omega
              | succ nf ih78 =>
                intro j mn j0 j1 j2 j3 hmu
                refine wp_iload dd_X11_remains_78 rfl ?_
                refine wp_iconst dd_X11_remains_80 (zr_lit rfl) ?_
                refine wp_icmp_ge (tgt := 118) dd_X11_remains_81 (by decide) (fun c81_6 => ?_) (fun c81_6 => ?_)
                · skip
                  have e81 : ∀ x : Int, 0 ≤ x → x < 5 → mn 81 x = mm 82 x := fun x q1 q2 => by rw [(j2 x q1 q2).1, if_pos (by omega), g2 82 (by decide), he82]
                  have e82 : ∀ x : Int, 0 ≤ x → x < 5 → mn 82 x = zrm (mem 67 1) (mm 82) (mm 81) x := fun x q1 q2 => by rw [(j2 x q1 q2).2, if_pos (by omega)]; exact key x q1 (by omega)
                  have hlt := zrm_lt (f := mm 81) hp r2 (by omega)
                  have hlr := zdp_rg (zrm (mem 67 1) (mm 82) (mm 81)) 5
                  refine wp_aload_n dd_X11_remains_118 rfl ?_
                  refine wp_aload_n dd_X11_remains_119 rfl ?_
                  refine wp_getZ 25 rfl dd_X11_remains_120 gf_X11_237 rfl kk_67 (by decide) (zlt rfl) ?_
                  refine wp_putzI 24 rfl dd_X11_remains_123 pf_X11_234 rfl kk_67 (by decide) (zlt rfl) ?_
                  refine wp_aload_n dd_X11_remains_126 rfl ?_
                  refine wp_aload_n dd_X11_remains_127 rfl ?_
                  refine wp_getR dd_X11_remains_128 gf_X11_70 rfl kk_67 (by decide) (zlt rfl) rr_67_22 ?_
                  refine wp_iconst dd_X11_remains_131 (zr_lit rfl) ?_
                  refine wp_callS (M' := mm_X11_deepOf) (As := [zR 82, zI 4]) (rest := [zR 67]) dd_X11_remains_132 lk_X11_230 mS_X11_deepOf rfl (by decide) (by decide) (Nat.le_of_ble_eq_true rfl) rfl (sp_X11_deepOf  82 4 kk_82 (zlt rfl) (by decide) ?_)
                  show zw_Wp l mm_X11_remains (zS L) 135 [some (zR 67), some (zI k0), some (zI (n + 1)), some (zI (mm 67 25)), some (zI j)] [zI (zdp ((zu mn 67 24 (mn 67 25)) 82) (4 + 1 : Int).toNat), zR 67] (zu mn 67 24 (mn 67 25)) 0 0 Q
                  refine wp_putzI 25 rfl dd_X11_remains_135 pf_X11_237 rfl kk_67 (by decide) (zlt rfl) ?_
                  have hY : (zdp ((zu mn 67 24 (mn 67 25)) 82) (4 + 1 : Int).toNat) = zdp (zrm (mem 67 1) (mm 82) (mm 81)) 5 := by
                    rw [zu_row (by decide)]; exact zdp_cg 5 e82
                  refine wp_goto (tgt := 30) dd_X11_remains_138 (by decide) ?_
                  refine wp_ls (zw_sub_of (a := [some (zR 67), some (zI k0), some (zI (n + 1)), some (zI (mm 67 25)), none]) (And.intro rfl (And.intro rfl (And.intro rfl (And.intro rfl (trivial)))))) ?_
                  refine ih30 (n + 1) (mm 67 25) (zu (zu mn 67 24 (mn 67 25)) 67 25 (zdp ((zu mn 67 24 (mn 67 25)) 82) (4 + 1 : Int).toNat)) (F - 1) ?_ ?_ ?_ ?_ ?_ ?_ ?_ ?_ ?_
                  · first | omega | assumption | (intros; omega)
                  · rw [zu_s, zu_row (by decide), zu_row (by decide)]; rfl
                  · rw [zu_s, hY]; omega
                  · rw [zu_s, hY]; omega
                  · intro x q1 q2; rw [zu_row (by decide), zu_row (by decide), e81 x q1 q2]; exact r2 x q1 q2
                  · intro x q1 q2; rw [zu_row (by decide), zu_row (by decide), e82 x q1 q2]; exact zrm_rg (by omega) r1 x q1 (by omega)
                  · refine ⟨fun q q1 q2 q3 q4 => ?_, fun s q1 q2 => ?_⟩
                    · rw [zu_row q1, zu_row q1, j3 q q2 q3, g2 q q4, g1 q q4]; exact fr.1 q q1 q2 q3 q4
                    · rw [zu_n (Or.inr q2), zu_n (Or.inr q1), j3 67 (by decide) (by decide), g2 67 (by decide), g1 67 (by decide)]; exact fr.2 s q1 q2
                  · rw [← h2]
                    obtain ⟨F9, rfl⟩ : ∃ F9, F = F9 + 1 := ⟨F - 1, by omega⟩
                    rw [zrs, if_neg (by omega), if_neg (by omega), ← a2]
                    refine zrs_cg F9 _ _ _ _ _ _ (fun x q1 q2 => ?_) (fun x q1 q2 => ?_)
                    · rw [zu_row (by decide), zu_row (by decide)]; exact e81 x q1 q2
                    · rw [zu_row (by decide), zu_row (by decide)]; exact e82 x q1 q2
                  · omega
                · skip
                  refine wp_aload_n dd_X11_remains_84 rfl ?_
                  refine wp_getR dd_X11_remains_85 gf_X11_67 rfl kk_67 (by decide) (zlt rfl) rr_67_21 ?_
                  refine wp_iload dd_X11_remains_88 rfl ?_
                  refine wp_aload_n dd_X11_remains_90 rfl ?_
                  refine wp_getR dd_X11_remains_91 gf_X11_70 rfl kk_67 (by decide) (zlt rfl) rr_67_22 ?_
                  refine wp_iload dd_X11_remains_94 rfl ?_
                  refine wp_iald dd_X11_remains_96 kk_82 (zlt rfl) (by omega) (by omega) ?_
                  refine wp_iast dd_X11_remains_97 kk_81 (zlt rfl) (by omega) (by omega) ?_
                  refine wp_aload_n dd_X11_remains_98 rfl ?_
                  refine wp_getR dd_X11_remains_99 gf_X11_70 rfl kk_67 (by decide) (zlt rfl) rr_67_22 ?_
                  refine wp_iload dd_X11_remains_102 rfl ?_
                  refine wp_aload_n dd_X11_remains_104 rfl ?_
                  refine wp_getR dd_X11_remains_105 gf_X11_73 rfl kk_67 (by decide) (zlt rfl) rr_67_23 ?_
                  refine wp_iload dd_X11_remains_108 rfl ?_
                  refine wp_ialdV (v := mn 83 j) (by rw [zu_row (by decide)]) dd_X11_remains_110 kk_83 (zlt rfl) (by omega) (by omega) ?_
                  refine wp_iast dd_X11_remains_111 kk_82 (zlt rfl) (by omega) (by omega) ?_
                  refine wp_iincC (ls2 := [some (zR 67), some (zI k0), some (zI (n + 1)), some (zI (mm 67 25)), some (zI (j + 1))]) dd_X11_remains_112 rfl rfl (by decide) (by omega) rfl ?_
                  refine wp_goto (tgt := 78) dd_X11_remains_115 (by decide) ?_
                  refine ih78 (j + 1) (zu (zu mn 81 j (mn 82 j)) 82 j (mn 83 j)) ?_ ?_ ?_ ?_ ?_
                  · first | omega | assumption | (intros; omega)
                  · first | omega | assumption | (intros; omega)
                  · intro x q1 q2
                    by_cases hx : x = j
                    · subst hx
                      refine ⟨?_, ?_⟩
                      · rw [zu_row (by decide), zu_s, if_pos (by omega), (j2 x q1 q2).2, if_neg (by omega)]
                      · rw [zu_s, if_pos (by omega), j3 83 (by decide) (by decide)]
                    · rw [zu_row (by decide), zu_n (Or.inr hx), zu_n (Or.inr hx), zu_row (by decide), (j2 x q1 q2).1, (j2 x q1 q2).2]
                      by_cases hl9 : x < j
                      · rw [if_pos hl9, if_pos hl9, if_pos (by omega), if_pos (by omega)]; exact ⟨rfl, rfl⟩
                      · rw [if_neg hl9, if_neg hl9, if_neg (by omega), if_neg (by omega)]; exact ⟨rfl, rfl⟩
                  · intro q q1 q2; rw [zu_row q2, zu_row q1]; exact j3 q q1 q2
                  · omega
            refine lp78 ((5 - 0 : Int)).toNat.succ 0 mf ?_ ?_ ?_ ?_ ?_
            · first | omega | assumption | (intros; omega)
            · first | omega | assumption | (intros; omega)
            · intro x q1 q2; exact ⟨by rw [if_neg (by omega)], by rw [if_neg (by omega)]⟩
            · intros; rfl
            · omega
          · skip
            refine wp_aload_n dd_X11_remains_42 rfl ?_
            refine wp_getZ 25 rfl dd_X11_remains_43 gf_X11_237 rfl kk_67 (by decide) (zlt rfl) ?_
            refine wp_ireturn (st := []) dd_X11_remains_46 rfl ?_
            refine k _ _ ?_ fr
            rw [← h2]
            obtain ⟨F9, rfl⟩ : ∃ F9, F = F9 + 1 := ⟨F - 1, by omega⟩
            rw [zrs, if_neg (by omega), if_pos (by omega)]; exact a2
    refine lp30 (((6 : Int) : Int)).toNat.succ 0 (-9) mem 6 ?_ ?_ ?_ ?_ ?_ ?_ ?_ ?_ ?_
    · first | omega | assumption | (intros; omega)
    · exact hd2
    · first | omega | assumption | (intros; omega)
    · first | omega | assumption | (intros; omega)
    · exact hr1
    · exact hr2
    · exact ⟨fun _ _ _ _ _ => rfl, fun _ _ _ => rfl⟩
    · unfold zrs0; first | (rw [if_pos (by omega)]) | (rw [if_neg (by omega), if_neg (by omega), hd1] <;> rfl)
    · omega
  · skip
    refine wp_iload_n dd_X11_remains_12 rfl ?_
    refine wp_iload_n dd_X11_remains_13 rfl ?_
    refine wp_icmp_ne (tgt := 22) dd_X11_remains_14 (by decide) (fun c14_7 => ?_) (fun c14_7 => ?_)
    · skip
      refine wp_aload_n dd_X11_remains_22 rfl ?_
      refine wp_getZ 24 rfl dd_X11_remains_23 gf_X11_234 rfl kk_67 (by decide) (zlt rfl) ?_
      refine wp_istore_n (ls2 := [some (zR 67), some (zI k0), some (zI 0), some (zI (mem 67 24)), none]) dd_X11_remains_26 rfl (by decide) rfl ?_
      refine wp_iincC (ls2 := [some (zR 67), some (zI k0), some (zI 1), some (zI (mem 67 24)), none]) dd_X11_remains_27 rfl rfl (by decide) (by omega) rfl ?_
      have lp30 : ∀ (nf : Nat) (n : Int) (w : Int) (mm : zMem) (F : Nat), (0 ≤ n) → (mm 67 25 = zdp (mm 82) 5) → (n + mm 67 25 ≤ 5) → (mm 67 25 + 2 ≤ F) → (∀ x : Int, 0 ≤ x → x < 5 → 0 ≤ mm 81 x ∧ mm 81 x < mem 67 1) → (∀ x : Int, 0 ≤ x → x < 5 → 0 ≤ mm 82 x ∧ mm 82 x < mem 67 1) → ((∀ q : Nat, q ≠ 67 → q ≠ 81 → q ≠ 82 → q ≠ 83 → mm q = mem q) ∧ ∀ s : Int, s ≠ 24 → s ≠ 25 → mm 67 s = mem 67 s) → (zrs (mem 67 1) k0 F n w (mm 81) (mm 82) = zrs0 (mem 67 1) k0 (mem 81) (mem 82)) → ((F : Int)) < (nf : Int) → zw_Wp l mm_X11_remains (zS L) 30 [some (zR 67), some (zI k0), some (zI n), some (zI w), none] [] mm 0 0 Q := by
        intro nf
        induction nf with
        | zero =>
          intro n w mm F n0 a2 n1 hF r1 r2 fr h2 hmu
          exfalso; omega
        | succ nf ih30 =>
          intro n w mm F n0 a2 n1 hF r1 r2 fr h2 hmu
          have hm1 : mm 67 1 = mem 67 1 := fr.2 1 (by decide) (by decide)
          have gm := zdp_rg (mm 82) 5
          refine wp_aload_n dd_X11_remains_30 rfl ?_
          refine wp_getZ 25 rfl dd_X11_remains_31 gf_X11_237 rfl kk_67 (by decide) (zlt rfl) ?_
          refine wp_if_lt (tgt := 141) dd_X11_remains_34 (by decide) (fun c34_8 => ?_) (fun c34_8 => ?_)
          · skip
            refine wp_iload_n dd_X11_remains_141 rfl ?_
            refine wp_iconst dd_X11_remains_142 (zr_lit rfl) ?_
            refine wp_icmp_ne (tgt := 150) dd_X11_remains_143 (by decide) (fun c143_9 => ?_) (fun c143_9 => ?_)
            · skip
              refine wp_iload_n dd_X11_remains_150 rfl ?_
              refine wp_bipush dd_X11_remains_151 (by decide) ?_
              refine wp_icmp_ne (tgt := 160) dd_X11_remains_153 (by decide) (fun c153_10 => ?_) (fun c153_10 => ?_)
              · skip
                refine wp_bipush dd_X11_remains_160 (by decide) ?_
                refine wp_ireturn (st := []) dd_X11_remains_162 rfl ?_
                refine k _ _ ?_ fr
                rw [← h2]
                obtain ⟨F9, rfl⟩ : ∃ F9, F = F9 + 1 := ⟨F - 1, by omega⟩
                rw [zrs, if_pos (by omega)]
                first | rw [if_pos (by omega)] | rw [if_neg (by omega), if_pos (by omega)] | rw [if_neg (by omega), if_neg (by omega)]
              · skip
                refine wp_iload_n dd_X11_remains_156 rfl ?_
                refine wp_goto (tgt := 162) dd_X11_remains_157 (by decide) ?_
                refine wp_ireturn (st := []) dd_X11_remains_162 rfl ?_
                refine k _ _ ?_ fr
                rw [← h2]
                obtain ⟨F9, rfl⟩ : ∃ F9, F = F9 + 1 := ⟨F - 1, by omega⟩
                rw [zrs, if_pos (by omega)]
                first | rw [if_pos (by omega)] | rw [if_neg (by omega), if_pos (by omega)] | rw [if_neg (by omega), if_neg (by omega)]
            · skip
              refine wp_iload_n dd_X11_remains_146 rfl ?_
              refine wp_goto (tgt := 162) dd_X11_remains_147 (by decide) ?_
              refine wp_ireturn (st := []) dd_X11_remains_162 rfl ?_
              refine k _ _ ?_ fr
              rw [← h2]
              obtain ⟨F9, rfl⟩ : ∃ F9, F = F9 + 1 := ⟨F - 1, by omega⟩
              rw [zrs, if_pos (by omega)]
              first | rw [if_pos (by omega)] | rw [if_neg (by omega), if_pos (by omega)] | rw [if_neg (by omega), if_neg (by omega)]
          · skip
            refine wp_iload_n dd_X11_remains_37 rfl ?_
            refine wp_iload_n dd_X11_remains_38 rfl ?_
            refine wp_icmp_ne (tgt := 47) dd_X11_remains_39 (by decide) (fun c39_11 => ?_) (fun c39_11 => ?_)
            · skip
              refine wp_aload_n dd_X11_remains_47 rfl ?_
              refine wp_getZ 25 rfl dd_X11_remains_48 gf_X11_237 rfl kk_67 (by decide) (zlt rfl) ?_
              refine wp_istore_n (ls2 := [some (zR 67), some (zI k0), some (zI n), some (zI (mm 67 25)), none]) dd_X11_remains_51 rfl (by decide) rfl ?_
              refine wp_iincC (ls2 := [some (zR 67), some (zI k0), some (zI (n + 1)), some (zI (mm 67 25)), none]) dd_X11_remains_52 rfl rfl (by decide) (by omega) rfl ?_
              refine wp_aload_n dd_X11_remains_55 rfl ?_
              refine wp_aload_n dd_X11_remains_56 rfl ?_
              refine wp_getR dd_X11_remains_57 gf_X11_67 rfl kk_67 (by decide) (zlt rfl) rr_67_21 ?_
              refine wp_callV (M' := mm_X11_takesLeft) (As := [zR 81]) (rest := []) dd_X11_remains_60 lk_X11_243 mV_X11_takesLeft kk_67 (zlt rfl) ⟨_, _, rfl⟩ rfl (by decide) (by decide) (Nat.le_of_ble_eq_true rfl) rfl (sp_X11_takesLeft  81 kk_81 (zlt rfl) (by decide) (fun me f1 g1 => ?_))
              show zw_Wp l mm_X11_remains (zS L) 63 [some (zR 67), some (zI k0), some (zI (n + 1)), some (zI (mm 67 25)), none] [] me 0 0 Q
              have he67 : me 67 = mm 67 := g1 67 (by decide)
              have he82 : me 82 = mm 82 := g1 82 (by decide)
              have he25 : me 67 25 = mm 67 25 := by rw [he67]
              have hL : ∀ x : Int, 0 ≤ x → x < 9 → me 83 x = z5 (mm 81) x := fun x q1 q2 => by
                rw [f1 x, if_pos ⟨q1, q2⟩]; unfold z5
                by_cases hx : x < 5
                · rw [if_pos hx, if_pos ⟨q1, hx⟩]
                · rw [if_neg hx, if_neg (by omega)]
              refine wp_aload_n dd_X11_remains_63 rfl ?_
              refine wp_aload_n dd_X11_remains_64 rfl ?_
              refine wp_getR dd_X11_remains_65 gf_X11_70 rfl kk_67 (by decide) (zlt rfl) rr_67_22 ?_
              refine wp_aload_n dd_X11_remains_68 rfl ?_
              refine wp_getZ 25 rfl dd_X11_remains_69 gf_X11_237 rfl kk_67 (by decide) (zlt rfl) ?_
              refine wp_callV (M' := mm_X11_divides) (As := [zR 82, zI (me 67 25)]) (rest := []) dd_X11_remains_72 lk_X11_247 mV_X11_divides kk_67 (zlt rfl) ⟨_, _, rfl⟩ rfl (by decide) (by decide) (Nat.le_of_ble_eq_true rfl) rfl (sp_X11_divides  82 (me 67 25) (by rw [he67, hm1]; exact hp) kk_82 (zlt rfl) (by decide) (by omega) (by rw [he67, he82, hm1]; exact r2) (by intro x q1 q2; rw [he67, hm1, hL x q1 q2]; unfold z5; split; exact r1 x q1 (by omega); omega) (fun mf f2 g2 => ?_))
              show zw_Wp l mm_X11_remains (zS L) 75 [some (zR 67), some (zI k0), some (zI (n + 1)), some (zI (mm 67 25)), none] [] mf 0 0 Q
              have key : ∀ x : Int, 0 ≤ x → x < 9 → mf 83 x = zrm (mem 67 1) (mm 82) (mm 81) x := by
                rw [f2, he67, he82, hm1, a2]
                exact zqr_cg (by omega) (fun _ _ _ => rfl) _ _ _ (by omega) hL
              refine wp_iconst dd_X11_remains_75 (zr_lit rfl) ?_
              refine wp_istore (ls2 := [some (zR 67), some (zI k0), some (zI (n + 1)), some (zI (mm 67 25)), some (zI 0)]) dd_X11_remains_76 rfl (by decide) rfl ?_
              have lp78 : ∀ (nf : Nat) (j : Int) (mn : zMem), (0 ≤ j) → (j ≤ 5) → (∀ x : Int, 0 ≤ x → x < 5 → mn 81 x = (if x < j then mf 82 x else mf 81 x) ∧ mn 82 x = if x < j then mf 83 x else mf 82 x) → (∀ q : Nat, q ≠ 81 → q ≠ 82 → mn q = mf q) → (5 - j) < (nf : Int) → zw_Wp l mm_X11_remains (zS L) 78 [some (zR 67), some (zI k0), some (zI (n + 1)), some (zI (mm 67 25)), some (zI j)] [] mn 0 0 Q := by
                intro nf
                induction nf with
                | zero =>
                  intro j mn j0 j1 j2 j3 hmu
                  exfalso; omega
                | succ nf ih78 =>
                  intro j mn j0 j1 j2 j3 hmu
                  refine wp_iload dd_X11_remains_78 rfl ?_
                  refine wp_iconst dd_X11_remains_80 (zr_lit rfl) ?_
                  refine wp_icmp_ge (tgt := 118) dd_X11_remains_81 (by decide) (fun c81_12 => ?_) (fun c81_12 => ?_)
                  · skip
                    have e81 : ∀ x : Int, 0 ≤ x → x < 5 → mn 81 x = mm 82 x := fun x q1 q2 => by rw [(j2 x q1 q2).1, if_pos (by omega), g2 82 (by decide), he82]
                    have e82 : ∀ x : Int, 0 ≤ x → x < 5 → mn 82 x = zrm (mem 67 1) (mm 82) (mm 81) x := fun x q1 q2 => by rw [(j2 x q1 q2).2, if_pos (by omega)]; exact key x q1 (by omega)
                    have hlt := zrm_lt (f := mm 81) hp r2 (by omega)
                    have hlr := zdp_rg (zrm (mem 67 1) (mm 82) (mm 81)) 5
                    refine wp_aload_n dd_X11_remains_118 rfl ?_
                    refine wp_aload_n dd_X11_remains_119 rfl ?_
                    refine wp_getZ 25 rfl dd_X11_remains_120 gf_X11_237 rfl kk_67 (by decide) (zlt rfl) ?_
                    refine wp_putzI 24 rfl dd_X11_remains_123 pf_X11_234 rfl kk_67 (by decide) (zlt rfl) ?_
                    refine wp_aload_n dd_X11_remains_126 rfl ?_
                    refine wp_aload_n dd_X11_remains_127 rfl ?_
                    refine wp_getR dd_X11_remains_128 gf_X11_70 rfl kk_67 (by decide) (zlt rfl) rr_67_22 ?_
                    refine wp_iconst dd_X11_remains_131 (zr_lit rfl) ?_
                    refine wp_callS (M' := mm_X11_deepOf) (As := [zR 82, zI 4]) (rest := [zR 67]) dd_X11_remains_132 lk_X11_230 mS_X11_deepOf rfl (by decide) (by decide) (Nat.le_of_ble_eq_true rfl) rfl (sp_X11_deepOf  82 4 kk_82 (zlt rfl) (by decide) ?_)
                    show zw_Wp l mm_X11_remains (zS L) 135 [some (zR 67), some (zI k0), some (zI (n + 1)), some (zI (mm 67 25)), some (zI j)] [zI (zdp ((zu mn 67 24 (mn 67 25)) 82) (4 + 1 : Int).toNat), zR 67] (zu mn 67 24 (mn 67 25)) 0 0 Q
                    refine wp_putzI 25 rfl dd_X11_remains_135 pf_X11_237 rfl kk_67 (by decide) (zlt rfl) ?_
                    have hY : (zdp ((zu mn 67 24 (mn 67 25)) 82) (4 + 1 : Int).toNat) = zdp (zrm (mem 67 1) (mm 82) (mm 81)) 5 := by
                      rw [zu_row (by decide)]; exact zdp_cg 5 e82
                    refine wp_goto (tgt := 30) dd_X11_remains_138 (by decide) ?_
                    refine wp_ls (zw_sub_of (a := [some (zR 67), some (zI k0), some (zI (n + 1)), some (zI (mm 67 25)), none]) (And.intro rfl (And.intro rfl (And.intro rfl (And.intro rfl (trivial)))))) ?_
                    refine ih30 (n + 1) (mm 67 25) (zu (zu mn 67 24 (mn 67 25)) 67 25 (zdp ((zu mn 67 24 (mn 67 25)) 82) (4 + 1 : Int).toNat)) (F - 1) ?_ ?_ ?_ ?_ ?_ ?_ ?_ ?_ ?_
                    · first | omega | assumption | (intros; omega)
                    · rw [zu_s, zu_row (by decide), zu_row (by decide)]; rfl
                    · rw [zu_s, hY]; omega
                    · rw [zu_s, hY]; omega
                    · intro x q1 q2; rw [zu_row (by decide), zu_row (by decide), e81 x q1 q2]; exact r2 x q1 q2
                    · intro x q1 q2; rw [zu_row (by decide), zu_row (by decide), e82 x q1 q2]; exact zrm_rg (by omega) r1 x q1 (by omega)
                    · refine ⟨fun q q1 q2 q3 q4 => ?_, fun s q1 q2 => ?_⟩
                      · rw [zu_row q1, zu_row q1, j3 q q2 q3, g2 q q4, g1 q q4]; exact fr.1 q q1 q2 q3 q4
                      · rw [zu_n (Or.inr q2), zu_n (Or.inr q1), j3 67 (by decide) (by decide), g2 67 (by decide), g1 67 (by decide)]; exact fr.2 s q1 q2
                    · rw [← h2]
                      obtain ⟨F9, rfl⟩ : ∃ F9, F = F9 + 1 := ⟨F - 1, by omega⟩
                      rw [zrs, if_neg (by omega), if_neg (by omega), ← a2]
                      refine zrs_cg F9 _ _ _ _ _ _ (fun x q1 q2 => ?_) (fun x q1 q2 => ?_)
                      · rw [zu_row (by decide), zu_row (by decide)]; exact e81 x q1 q2
                      · rw [zu_row (by decide), zu_row (by decide)]; exact e82 x q1 q2
                    · omega
                  · skip
                    refine wp_aload_n dd_X11_remains_84 rfl ?_
                    refine wp_getR dd_X11_remains_85 gf_X11_67 rfl kk_67 (by decide) (zlt rfl) rr_67_21 ?_
                    refine wp_iload dd_X11_remains_88 rfl ?_
                    refine wp_aload_n dd_X11_remains_90 rfl ?_
                    refine wp_getR dd_X11_remains_91 gf_X11_70 rfl kk_67 (by decide) (zlt rfl) rr_67_22 ?_
                    refine wp_iload dd_X11_remains_94 rfl ?_
                    refine wp_iald dd_X11_remains_96 kk_82 (zlt rfl) (by omega) (by omega) ?_
                    refine wp_iast dd_X11_remains_97 kk_81 (zlt rfl) (by omega) (by omega) ?_
                    refine wp_aload_n dd_X11_remains_98 rfl ?_
                    refine wp_getR dd_X11_remains_99 gf_X11_70 rfl kk_67 (by decide) (zlt rfl) rr_67_22 ?_
                    refine wp_iload dd_X11_remains_102 rfl ?_
                    refine wp_aload_n dd_X11_remains_104 rfl ?_
                    refine wp_getR dd_X11_remains_105 gf_X11_73 rfl kk_67 (by decide) (zlt rfl) rr_67_23 ?_
                    refine wp_iload dd_X11_remains_108 rfl ?_
                    refine wp_ialdV (v := mn 83 j) (by rw [zu_row (by decide)]) dd_X11_remains_110 kk_83 (zlt rfl) (by omega) (by omega) ?_
                    refine wp_iast dd_X11_remains_111 kk_82 (zlt rfl) (by omega) (by omega) ?_
                    refine wp_iincC (ls2 := [some (zR 67), some (zI k0), some (zI (n + 1)), some (zI (mm 67 25)), some (zI (j + 1))]) dd_X11_remains_112 rfl rfl (by decide) (by omega) rfl ?_
                    refine wp_goto (tgt := 78) dd_X11_remains_115 (by decide) ?_
                    refine ih78 (j + 1) (zu (zu mn 81 j (mn 82 j)) 82 j (mn 83 j)) ?_ ?_ ?_ ?_ ?_
                    · first | omega | assumption | (intros; omega)
                    · first | omega | assumption | (intros; omega)
                    · intro x q1 q2
                      by_cases hx : x = j
                      · subst hx
                        refine ⟨?_, ?_⟩
                        · rw [zu_row (by decide), zu_s, if_pos (by omega), (j2 x q1 q2).2, if_neg (by omega)]
                        · rw [zu_s, if_pos (by omega), j3 83 (by decide) (by decide)]
                      · rw [zu_row (by decide), zu_n (Or.inr hx), zu_n (Or.inr hx), zu_row (by decide), (j2 x q1 q2).1, (j2 x q1 q2).2]
                        by_cases hl9 : x < j
                        · rw [if_pos hl9, if_pos hl9, if_pos (by omega), if_pos (by omega)]; exact ⟨rfl, rfl⟩
                        · rw [if_neg hl9, if_neg hl9, if_neg (by omega), if_neg (by omega)]; exact ⟨rfl, rfl⟩
                    · intro q q1 q2; rw [zu_row q2, zu_row q1]; exact j3 q q1 q2
                    · omega
              refine lp78 ((5 - 0 : Int)).toNat.succ 0 mf ?_ ?_ ?_ ?_ ?_
              · first | omega | assumption | (intros; omega)
              · first | omega | assumption | (intros; omega)
              · intro x q1 q2; exact ⟨by rw [if_neg (by omega)], by rw [if_neg (by omega)]⟩
              · intros; rfl
              · omega
            · skip
              refine wp_aload_n dd_X11_remains_42 rfl ?_
              refine wp_getZ 25 rfl dd_X11_remains_43 gf_X11_237 rfl kk_67 (by decide) (zlt rfl) ?_
              refine wp_ireturn (st := []) dd_X11_remains_46 rfl ?_
              refine k _ _ ?_ fr
              rw [← h2]
              obtain ⟨F9, rfl⟩ : ∃ F9, F = F9 + 1 := ⟨F - 1, by omega⟩
              rw [zrs, if_neg (by omega), if_pos (by omega)]; exact a2
      refine lp30 (((6 : Int) : Int)).toNat.succ 1 (mem 67 24) mem 6 ?_ ?_ ?_ ?_ ?_ ?_ ?_ ?_ ?_
      · first | omega | assumption | (intros; omega)
      · exact hd2
      · first | omega | assumption | (intros; omega)
      · first | omega | assumption | (intros; omega)
      · exact hr1
      · exact hr2
      · exact ⟨fun _ _ _ _ _ => rfl, fun _ _ _ => rfl⟩
      · unfold zrs0; first | (rw [if_pos (by omega)]) | (rw [if_neg (by omega), if_neg (by omega), hd1] <;> rfl)
      · omega
    · skip
      refine wp_aload_n dd_X11_remains_17 rfl ?_
      refine wp_getZ 24 rfl dd_X11_remains_18 gf_X11_234 rfl kk_67 (by decide) (zlt rfl) ?_
      refine wp_ireturn (st := []) dd_X11_remains_21 rfl ?_
      refine k _ _ ?_ ⟨fun _ _ _ _ _ => rfl, fun _ _ _ => rfl⟩
      unfold zrs0; rw [if_neg (by omega), if_pos (by omega)]; exact hd1

