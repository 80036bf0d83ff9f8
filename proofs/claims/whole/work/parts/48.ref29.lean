/-! ===== hulls: what the corners of a set of points must be ===== -/
/-- b is what lies furthest behind, seen from a -/
def zEd (P : Int → Prop) (a b : Int) : Prop := (∀ t : Int, 0 ≤ t → t < 144 → P t → t ≠ a → t ≠ b → 0 < ztn a b t ∨ (ztn a b t = 0 ∧ zfar a t < zfar a b)) ∧ (a = b → ∀ t : Int, 0 ≤ t → t < 144 → P t → t = a)
def zHu (P : Int → Prop) (f : Int → Int) (n : Int) : Prop := (1 ≤ n ∧ n ≤ 40) ∧ (∀ i : Int, 0 ≤ i → i ≤ n → (0 ≤ f i ∧ f i < 144) ∧ P (f i)) ∧ (∀ t : Int, 0 ≤ t → t < 144 → P t → f 0 ≤ t) ∧ f n = f 0 ∧ (∀ i : Int, 0 < i → i < n → f i ≠ f 0) ∧ ∀ i : Int, 0 ≤ i → i < n → zEd P (f i) (f (i + 1))
theorem ztn_sw (a b c : Int) : ztn a c b = - ztn a b c := by
  unfold ztn
  grind
theorem zbh_ed {P : Int → Prop} {F : Int → Int} {a b : Int} (hF : ∀ t : Int, 0 ≤ t → t < 144 → (F t ≠ 0 ↔ P t)) (ha : 0 ≤ a ∧ a < 144) (hb : 0 ≤ b ∧ b < 144) (hP : P b) (h : zEd P a b) : zbh F a 144 = b := by
  by_cases hab : a = b
  · have key : ∀ n : Nat, n ≤ 144 → zbh F a n = a := by
      intro n
      induction n with
      | zero => intro _; rfl
      | succ n ih =>
        intro hn
        unfold zbh
        rw [ih (by omega), if_neg]
        intro q
        exact q.2.1 (h.2 hab n (by omega) (by omega) ((hF n (by omega) (by omega)).mp q.1))
    rw [key 144 (by omega), hab]
  · have key : ∀ n : Nat, n ≤ 144 → ((n : Int) ≤ b → (zbh F a n = a ∨ ((0 ≤ zbh F a n ∧ zbh F a n < 144) ∧ P (zbh F a n) ∧ zbh F a n ≠ a ∧ zbh F a n ≠ b))) ∧ (b < n → zbh F a n = b) := by
      intro n
      induction n with
      | zero => intro _; exact ⟨fun _ => Or.inl rfl, fun q => by omega⟩
      | succ n ih =>
        intro hn
        obtain ⟨h1, h2⟩ := ih (by omega)
        unfold zbh
        by_cases hc : F n ≠ 0 ∧ (n : Int) ≠ a ∧ (zbh F a n = a ∨ ztn a (zbh F a n) n < 0 ∨ (ztn a (zbh F a n) n = 0 ∧ zfar a (zbh F a n) < zfar a n))
        · rw [if_pos hc]
          have hPn := (hF n (by omega) (by omega)).mp hc.1
          refine ⟨fun q => Or.inr ⟨by omega, hPn, hc.2.1, by omega⟩, fun q => ?_⟩
          by_cases e : (n : Int) = b
          · exact e
          · exfalso
            have e1 := h2 (by omega)
            have e2 := h.1 n (by omega) (by omega) hPn hc.2.1 e
            have e3 := hc.2.2
            rw [e1] at e3
            rcases e3 with e3 | e3 | e3
            · exact hab e3.symm
            · rcases e2 with e2 | e2 <;> omega
            · rcases e2 with e2 | e2 <;> omega
        · rw [if_neg hc]
          refine ⟨fun q => h1 (by omega), fun q => ?_⟩
          by_cases e : (n : Int) = b
          · exfalso
            refine hc ⟨(hF n (by omega) (by omega)).mpr (by rw [e]; exact hP), fun z => hab (by omega), ?_⟩
            rcases h1 (by omega) with h3 | ⟨h3, h4, h5, h6⟩
            · exact Or.inl h3
            · have e2 := h.1 _ h3.1 h3.2 h4 h5 h6
              have e3 := ztn_sw a b (zbh F a n)
              rw [← e] at e2 e3
              rcases e2 with e2 | e2
              · exact Or.inr (Or.inl (by omega))
              · exact Or.inr (Or.inr (by omega))
          · exact h2 (by omega)
    exact (key 144 (by omega)).2 (by omega)
/-- the places of a polynomial's terms, and of their sums -/
def zP1 (c : Int → Int) (t : Int) : Prop := t / 16 ≤ 4 ∧ t % 16 ≤ 4 ∧ c (5 * (t / 16) + t % 16) ≠ 0
def zP2 (c d : Int → Int) (t : Int) : Prop := ∃ s u : Int, (0 ≤ s ∧ s < 25) ∧ (0 ≤ u ∧ u < 25) ∧ c s ≠ 0 ∧ d u ≠ 0 ∧ t = 16 * (s / 5 + u / 5) + s % 5 + u % 5
/-- the corners are there -/
def zCs (m : zMem) (f : Int → Int) (n : Int) : Prop := m 67 28 = n ∧ (1 ≤ n ∧ n ≤ 40) ∧ (∀ i : Int, 0 ≤ i → i < n → m 85 i = f i ∧ 0 ≤ f i ∧ f i < 144)
theorem zCs.co {m : zMem} {f : Int → Int} {n : Int} (h : zCs m f n) : zCo m := by
  obtain ⟨h1, h2, h3⟩ := h
  refine ⟨by omega, fun x q1 q2 => ?_⟩
  have := h3 x q1 (by omega)
  rw [this.1]; exact this.2
theorem zar_cg {f g : Int → Int} : ∀ m : Nat, (∀ i : Int, 0 ≤ i → i < m + 2 → f i = g i) → zar f m = zar g m
  | 0, _ => rfl
  | m + 1, h => by
    rw [zar, zar, zar_cg m (fun i q1 q2 => h i q1 (by omega)), h 0 (by omega) (by omega), h (m + 1) (by omega) (by omega), h (m + 2) (by omega) (by omega)]
theorem zCs.ar {m : zMem} {f : Int → Int} {n : Int} (h : zCs m f n) : zar (m 85) (m 67 28 - 2).toNat = zar f (n - 2).toNat := by
  obtain ⟨h1, h2, h3⟩ := h
  rw [h1]
  by_cases q : 2 ≤ n
  · exact zar_cg _ (fun i q1 q2 => (h3 i q1 (by omega)).1)
  · rw [show (n - 2).toNat = 0 by omega]; rfl
def zcr (f : Int → Int) (n k : Int) : Int := if k < n then 10 * (f k / 16) + f k % 16 else -9
theorem zCs.cr {m : zMem} {f : Int → Int} {n k : Int} (h : zCs m f n) (hk : 0 ≤ k) : zcor m k = zcr f n k := by
  obtain ⟨h1, h2, h3⟩ := h
  unfold zcor zcr
  rw [h1]
  by_cases q : k < n
  · rw [if_pos q, if_pos q, (h3 k hk q).1]
  · rw [if_neg q, if_neg q]
theorem zar_bd {f : Int → Int} {n : Int} (h : ∀ i : Int, 0 ≤ i → i < n → 0 ≤ f i ∧ f i < 144) (hn : 1 ≤ n ∧ n ≤ 40) : -18000 ≤ zar f (n - 2).toNat ∧ zar f (n - 2).toNat ≤ 18000 := by
  by_cases q : 2 ≤ n
  · have := zar_rg (f := f) (n - 2).toNat (fun x q1 q2 => h x q1 (by omega))
    omega
  · rw [show (n - 2).toNat = 0 by omega]; show (-18000 : Int) ≤ 0 ∧ (0 : Int) ≤ 18000; decide
theorem sp_X11_isTerm2 {l : Launch} {L : Nat} {mem : zMem} {Q : zQ} (m0 : zMem) (q i j : Int) (hk : zkp m0 mem) (hp : zPr (m0 67 1)) (hT : zT m0 q) (hi : 0 ≤ i ∧ i ≤ 4) (hj : 0 ≤ j ∧ j ≤ 4) (k : Q (some (zI (if zco m0 q (5 * i + j) = 0 then 0 else 1))) (zS L) mem) : zw_Ok l mm_X11_isTerm [zR 67, zI q, zI i, zI j] (zS L) mem Q :=
  sp_X11_isTerm q i j (by rw [hk.1]; exact hp) (hk.T hT) hi hj (by rw [zco_at hi hj, hk.co q]; exact k)

set_option maxRecDepth 100000 in
set_option maxHeartbeats 4000000 in
theorem sp_X11_wraps {l : Launch} {L : Nat} {mem : zMem} {Q : zQ} (P : Int → Prop) (f : Int → Int) (n : Int)  (hH : zHu P f n) (hF : ∀ t : Int, 0 ≤ t → t < 144 → (mem 84 t ≠ 0 ↔ P t)) (k : ∀ (mem2 : zMem), (zCs mem2 f n) → ((∀ q : Nat, q ≠ 67 → q ≠ 85 → mem2 q = mem q) ∧ ∀ s : Int, s ≠ 28 → mem2 67 s = mem 67 s) → Q none (zS L) mem2) : zw_Ok l mm_X11_wraps [zR 67] (zS L) mem Q := by
  refine zw_enter (by decide) (Nat.le_of_ble_eq_true rfl) rfl ?_
  show zw_Wp l mm_X11_wraps (zS L) 0 [some (zR 67), none, none] [] mem 0 0 Q
  obtain ⟨hn, hR, hM, hE, hD, hG⟩ := hH
  have r0 := hR 0 (by omega) (by omega)
  refine wp_iconst dd_X11_wraps_0 (zr_lit rfl) ?_
  refine wp_istore_n (ls2 := [some (zR 67), some (zI 0), none]) dd_X11_wraps_1 rfl (by decide) rfl ?_
  have lp2 : ∀ (nf : Nat) (i : Int), (0 ≤ i) → (i ≤ f 0) → (f 0 - i) < (nf : Int) → zw_Wp l mm_X11_wraps (zS L) 2 [some (zR 67), some (zI i), none] [] mem 0 0 Q := by
    intro nf
    induction nf with
    | zero =>
      intro i i0 i1 hmu
      exfalso; omega
    | succ nf ih2 =>
      intro i i0 i1 hmu
      have i144 : i < 144 := by omega
      have hne9 : mem 84 i = 0 → i ≠ f 0 := fun z q => (hF i i0 (by omega)).mpr (by rw [q]; exact r0.2) z
      refine wp_aload_n dd_X11_wraps_2 rfl ?_
      refine wp_getR dd_X11_wraps_3 gf_X11_76 rfl kk_67 (by decide) (zlt rfl) rr_67_26 ?_
      refine wp_iload_n dd_X11_wraps_6 rfl ?_
      refine wp_bald dd_X11_wraps_7 kk_84 (zlt rfl) (by omega) (by omega) ?_
      refine wp_if_ne (tgt := 17) dd_X11_wraps_8 (by decide) (fun c8_1 => ?_) (fun c8_1 => ?_)
      · skip
        have hi9 : i = f 0 := by have := hM i i0 i144 ((hF i i0 i144).mp (by assumption)); omega
        refine wp_aload_n dd_X11_wraps_17 rfl ?_
        refine wp_iconst dd_X11_wraps_18 (zr_lit rfl) ?_
        refine wp_putzI 28 rfl dd_X11_wraps_19 pf_X11_274 rfl kk_67 (by decide) (zlt rfl) ?_
        refine wp_iload_n dd_X11_wraps_22 rfl ?_
        refine wp_istore_n (ls2 := [some (zR 67), some (zI i), some (zI i)]) dd_X11_wraps_23 rfl (by decide) rfl ?_
        have lp24 : ∀ (nf : Nat) (w : Int) (mm : zMem) (kk : Int), (0 ≤ kk) → (kk < n) → (w = f kk) → (mm 67 28 = kk) → (∀ x : Int, 0 ≤ x → x < kk → mm 85 x = f x) → (∀ q : Nat, q ≠ 67 → q ≠ 85 → mm q = mem q) → (∀ s : Int, s ≠ 28 → mm 67 s = mem 67 s) → (n - kk) < (nf : Int) → zw_Wp l mm_X11_wraps (zS L) 24 [some (zR 67), some (zI i), some (zI w)] [] mm 0 0 Q := by
          intro nf
          induction nf with
          | zero =>
            intro w mm kk k0 k1 kw k28 k85 kf ks hmu
            exfalso; omega
          | succ nf ih24 =>
            intro w mm kk k0 k1 kw k28 k85 kf ks hmu
            have rk := hR kk k0 (by omega)
            have rk1 := hR (kk + 1) (by omega) (by omega)
            refine wp_aload_n dd_X11_wraps_24 rfl ?_
            refine wp_getR dd_X11_wraps_25 gf_X11_80 rfl kk_67 (by decide) (zlt rfl) rr_67_27 ?_
            refine wp_aload_n dd_X11_wraps_28 rfl ?_
            refine wp_getZ 28 rfl dd_X11_wraps_29 gf_X11_274 rfl kk_67 (by decide) (zlt rfl) ?_
            refine wp_iload_n dd_X11_wraps_32 rfl ?_
            refine wp_iast dd_X11_wraps_33 kk_85 (zlt rfl) (by omega) (by omega) ?_
            refine wp_aload_n dd_X11_wraps_34 rfl ?_
            refine wp_dup dd_X11_wraps_35 rfl ?_
            refine wp_getV 28 (v := mm 67 28) rfl (by rw [zu_row (by decide)]) dd_X11_wraps_36 gf_X11_274 rfl kk_67 (by decide) (zlt rfl) ?_
            refine wp_iconst dd_X11_wraps_39 (zr_lit rfl) ?_
            refine wp_iaddC dd_X11_wraps_40 (by omega) ?_
            refine wp_putzI 28 rfl dd_X11_wraps_41 pf_X11_274 rfl kk_67 (by decide) (zlt rfl) ?_
            refine wp_aload_n dd_X11_wraps_44 rfl ?_
            refine wp_iload_n dd_X11_wraps_45 rfl ?_
            refine wp_callV (M' := mm_X11_behind) (As := [zI w]) (rest := []) dd_X11_wraps_46 lk_X11_277 mV_X11_behind kk_67 (zlt rfl) ⟨_, _, rfl⟩ rfl (by decide) (by decide) (Nat.le_of_ble_eq_true rfl) rfl (sp_X11_behind  w (by omega) ?_)
            show zw_Wp l mm_X11_wraps (zS L) 49 [some (zR 67), some (zI i), some (zI w)] [zI (zbh ((zu (zu mm 85 (mm 67 28) w) 67 28 ((mm 67 28) + 1)) 84) w 144)] (zu (zu mm 85 (mm 67 28) w) 67 28 ((mm 67 28) + 1)) 0 0 Q
            have hnx : zbh ((zu (zu mm 85 (mm 67 28) w) 67 28 (mm 67 28 + 1)) 84) w 144 = f (kk + 1) := by
              rw [zu_row (by decide), zu_row (by decide), kf 84 (by decide) (by decide), kw]
              exact zbh_ed hF rk.1 rk1.1 rk1.2 (hG kk k0 k1)
            refine wp_istore_n (ls2 := [some (zR 67), some (zI i), some (zI (zbh ((zu (zu mm 85 (mm 67 28) w) 67 28 ((mm 67 28) + 1)) 84) w 144))]) dd_X11_wraps_49 rfl (by decide) rfl ?_
            refine wp_iload_n dd_X11_wraps_50 rfl ?_
            refine wp_iload_n dd_X11_wraps_51 rfl ?_
            refine wp_icmp_ne (tgt := 24) dd_X11_wraps_52 (by decide) (fun c52_2 => ?_) (fun c52_2 => ?_)
            · skip
              refine ih24 (zbh ((zu (zu mm 85 (mm 67 28) w) 67 28 ((mm 67 28) + 1)) 84) w 144) (zu (zu mm 85 (mm 67 28) w) 67 28 ((mm 67 28) + 1)) (kk + 1) ?_ ?_ ?_ ?_ ?_ ?_ ?_ ?_
              · first | omega | assumption | (intros; omega)
              · have hne7 : kk + 1 ≠ n := fun q => by rw [q] at hnx; omega
                omega
              · exact hnx
              · rw [zu_s]; omega
              · intro x q1 q2
                rw [zu_row (by decide)]
                by_cases hx : x = kk
                · rw [hx, ← k28, zu_s, kw, k28]
                · rw [zu_n (Or.inr (by omega))]; exact k85 x q1 (by omega)
              · intro q q1 q2; rw [zu_row q1, zu_row q2]; exact kf q q1 q2
              · intro s hs; rw [zu_n (Or.inr hs), zu_row (by decide)]; exact ks s hs
              · omega
            · skip
              refine wp_return (st := []) dd_X11_wraps_55 rfl ?_
              have hkn : kk + 1 = n := by
                by_cases q : kk + 1 < n
                · exact absurd (show f (kk + 1) = f 0 by omega) (hD (kk + 1) (by omega) q)
                · omega
              refine k _ ⟨?_, hn, fun x q1 q2 => ⟨?_, (hR x q1 (by omega)).1⟩⟩ ⟨fun q q1 q2 => ?_, fun s hs => ?_⟩
              · rw [zu_s]; omega
              · rw [zu_row (by decide)]
                by_cases hx : x = kk
                · rw [hx, ← k28, zu_s, kw, k28]
                · rw [zu_n (Or.inr (by omega))]; exact k85 x q1 (by omega)
              · rw [zu_row q1, zu_row q2]; exact kf q q1 q2
              · rw [zu_n (Or.inr hs), zu_row (by decide)]; exact ks s hs
        refine lp24 ((n - 0 : Int)).toNat.succ i (zu mem 67 28 0) 0 ?_ ?_ ?_ ?_ ?_ ?_ ?_ ?_
        · first | omega | assumption | (intros; omega)
        · first | omega | assumption | (intros; omega)
        · exact hi9
        · exact zu_s
        · intros; omega
        · intro q q1 q2; rw [zu_row q1]
        · intro s hs; rw [zu_n (Or.inr hs)]
        · omega
      · skip
        have hne8 := hne9 (by omega)
        refine wp_iincC (ls2 := [some (zR 67), some (zI (i + 1)), none]) dd_X11_wraps_11 rfl rfl (by decide) (by omega) rfl ?_
        refine wp_goto (tgt := 2) dd_X11_wraps_14 (by decide) ?_
        refine ih2 (i + 1) ?_ ?_ ?_
        · first | omega | assumption | (intros; omega)
        · have hne : i ≠ f 0 := fun q => (hF i i0 (by omega)).mpr (by rw [q]; exact r0.2) (by assumption)
          omega
        · omega
  refine lp2 ((f 0 - 0 : Int)).toNat.succ 0 ?_ ?_ ?_
  · first | omega | assumption | (intros; omega)
  · first | omega | assumption | (intros; omega)
  · omega

set_option maxRecDepth 100000 in
set_option maxHeartbeats 4000000 in
theorem sp_X11_wrapsOne {l : Launch} {L : Nat} {mem : zMem} {Q : zQ} (f : Int → Int) (n : Int) (q : Int) (hp : zPr (mem 67 1)) (hT : zT mem q) (hH : zHu (zP1 (zco mem q)) f n) (k : ∀ (mem2 : zMem), (zCs mem2 f n) → ((∀ q : Nat, q ≠ 67 → q ≠ 84 → q ≠ 85 → mem2 q = mem q) ∧ ∀ s : Int, s ≠ 28 → mem2 67 s = mem 67 s) → Q none (zS L) mem2) : zw_Ok l mm_X11_wrapsOne [zR 67, zI q] (zS L) mem Q := by
  refine zw_okA (fun hA => ?_)
  have rg_q : -2147483648 ≤ q ∧ q < 2147483648 := hA.2.1
  refine zw_enter (by decide) (Nat.le_of_ble_eq_true rfl) rfl ?_
  show zw_Wp l mm_X11_wrapsOne (zS L) 0 [some (zR 67), some (zI q), none] [] mem 0 0 Q
  refine wp_aload_n dd_X11_wrapsOne_0 rfl ?_
  refine wp_callV (M' := mm_X11_clears) (As := []) (rest := []) dd_X11_wrapsOne_1 lk_X11_280 mV_X11_clears kk_67 (zlt rfl) ⟨_, _, rfl⟩ rfl (by decide) (by decide) (Nat.le_of_ble_eq_true rfl) rfl (sp_X11_clears    (fun me f1 g1 => ?_))
  show zw_Wp l mm_X11_wrapsOne (zS L) 4 [some (zR 67), some (zI q), none] [] me 0 0 Q
  refine wp_iconst dd_X11_wrapsOne_4 (zr_lit rfl) ?_
  refine wp_istore_n (ls2 := [some (zR 67), some (zI q), some (zI 0)]) dd_X11_wrapsOne_5 rfl (by decide) rfl ?_
  have lp6 : ∀ (nf : Nat) (t : Int) (mm : zMem), (0 ≤ t) → (t ≤ 25) → (∀ x : Int, 0 ≤ x → x < 144 → mm 84 x = if x / 16 ≤ 4 ∧ x % 16 ≤ 4 ∧ 5 * (x / 16) + x % 16 < t ∧ zco mem q (5 * (x / 16) + x % 16) ≠ 0 then 1 else 0) → (∀ q : Nat, q ≠ 84 → mm q = mem q) → (25 - t) < (nf : Int) → zw_Wp l mm_X11_wrapsOne (zS L) 6 [some (zR 67), some (zI q), some (zI t)] [] mm 0 0 Q := by
    intro nf
    induction nf with
    | zero =>
      intro t mm h0 h1 h2 h3 hmu
      exfalso; omega
    | succ nf ih6 =>
      intro t mm h0 h1 h2 h3 hmu
      have hkk : zkp mem mm := ⟨by rw [h3 67 (by decide)], by rw [h3 67 (by decide)], h3 69 (by decide), h3 70 (by decide), h3 71 (by decide)⟩
      refine wp_iload_n dd_X11_wrapsOne_6 rfl ?_
      refine wp_bipush dd_X11_wrapsOne_7 (by decide) ?_
      refine wp_icmp_ge (tgt := 44) dd_X11_wrapsOne_9 (by decide) (fun c9_1 => ?_) (fun c9_1 => ?_)
      · skip
        refine wp_aload_n dd_X11_wrapsOne_44 rfl ?_
        refine wp_callV (M' := mm_X11_wraps) (As := []) (rest := []) dd_X11_wrapsOne_45 lk_X11_283 mV_X11_wraps kk_67 (zlt rfl) ⟨_, _, rfl⟩ rfl (by decide) (by decide) (Nat.le_of_ble_eq_true rfl) rfl (sp_X11_wraps (zP1 (zco mem q)) f n  hH (by
                intro x q1 q2
                rw [h2 x q1 q2]
                unfold zP1
                by_cases hc : x / 16 ≤ 4 ∧ x % 16 ≤ 4 ∧ 5 * (x / 16) + x % 16 < t ∧ zco mem q (5 * (x / 16) + x % 16) ≠ 0
                · rw [if_pos hc]; exact ⟨fun _ => ⟨hc.1, hc.2.1, hc.2.2.2⟩, fun _ => by decide⟩
                · rw [if_neg hc]; exact ⟨fun z => absurd rfl z, fun z => absurd ⟨z.1, z.2.1, by omega, z.2.2⟩ hc⟩) (fun mz fz gz => ?_))
        show zw_Wp l mm_X11_wrapsOne (zS L) 48 [some (zR 67), some (zI q), some (zI t)] [] mz 0 0 Q
        refine wp_return (st := []) dd_X11_wrapsOne_48 rfl ?_
        exact k mz fz ⟨fun q q1 q2 q3 => (gz.1 q q1 q3).trans (h3 q q2), fun s hs => by rw [gz.2 s hs, h3 67 (by decide)]⟩
      · skip
        refine wp_aload_n dd_X11_wrapsOne_12 rfl ?_
        refine wp_getR dd_X11_wrapsOne_13 gf_X11_76 rfl kk_67 (by decide) (zlt rfl) rr_67_26 ?_
        refine wp_bipush dd_X11_wrapsOne_16 (by decide) ?_
        refine wp_iload_n dd_X11_wrapsOne_18 rfl ?_
        refine wp_iconst dd_X11_wrapsOne_19 (zr_lit rfl) ?_
        refine wp_idivP dd_X11_wrapsOne_20 (by omega) (by omega) ?_
        refine wp_imulC dd_X11_wrapsOne_21 (by omega) ?_
        refine wp_iload_n dd_X11_wrapsOne_22 rfl ?_
        refine wp_iconst dd_X11_wrapsOne_23 (zr_lit rfl) ?_
        refine wp_iremP dd_X11_wrapsOne_24 (by omega) (by omega) ?_
        refine wp_iaddC dd_X11_wrapsOne_25 (by omega) ?_
        refine wp_aload_n dd_X11_wrapsOne_26 rfl ?_
        refine wp_iload_n dd_X11_wrapsOne_27 rfl ?_
        refine wp_iload_n dd_X11_wrapsOne_28 rfl ?_
        refine wp_iconst dd_X11_wrapsOne_29 (zr_lit rfl) ?_
        refine wp_idivP dd_X11_wrapsOne_30 (by omega) (by omega) ?_
        refine wp_iload_n dd_X11_wrapsOne_31 rfl ?_
        refine wp_iconst dd_X11_wrapsOne_32 (zr_lit rfl) ?_
        refine wp_iremP dd_X11_wrapsOne_33 (by omega) (by omega) ?_
        refine wp_callV (M' := mm_X11_isTerm) (As := [zI q, zI (t / 5), zI (t % 5)]) (rest := [zI ((16 * (t / 5)) + (t % 5)), zR 84]) dd_X11_wrapsOne_34 lk_X11_111 mV_X11_isTerm kk_67 (zlt rfl) ⟨_, _, rfl⟩ rfl (by decide) (by decide) (Nat.le_of_ble_eq_true rfl) rfl (sp_X11_isTerm2 mem q (t / 5) (t % 5) hkk hp hT (by omega) (by omega) ?_)
        show zw_Wp l mm_X11_wrapsOne (zS L) 37 [some (zR 67), some (zI q), some (zI t)] [zI (if zco mem q (5 * (t / 5) + (t % 5)) = 0 then 0 else 1), zI ((16 * (t / 5)) + (t % 5)), zR 84] mm 0 0 Q
        refine wp_bast dd_X11_wrapsOne_37 kk_84 (zlt rfl) (by omega) (by omega) (by split <;> omega) ?_
        refine wp_iincC (ls2 := [some (zR 67), some (zI q), some (zI (t + 1))]) dd_X11_wrapsOne_38 rfl rfl (by decide) (by omega) rfl ?_
        refine wp_goto (tgt := 6) dd_X11_wrapsOne_41 (by decide) ?_
        refine ih6 (t + 1) (zu mm 84 ((16 * (t / 5)) + (t % 5)) (if zco mem q (5 * (t / 5) + (t % 5)) = 0 then 0 else 1)) ?_ ?_ ?_ ?_ ?_
        · first | omega | assumption | (intros; omega)
        · first | omega | assumption | (intros; omega)
        · intro x q1 q2
          by_cases hx : x = 16 * (t / 5) + t % 5
          · rw [hx, zu_s, show (16 * (t / 5) + t % 5) / 16 = t / 5 by omega, show (16 * (t / 5) + t % 5) % 16 = t % 5 by omega]
            by_cases hz : zco mem q (5 * (t / 5) + t % 5) = 0
            · rw [if_pos hz, if_neg (fun z => z.2.2.2 hz)]
            · rw [if_neg hz, if_pos ⟨by omega, by omega, by omega, hz⟩]
          · rw [zu_n (Or.inr hx), h2 x q1 q2]
            by_cases hc : x / 16 ≤ 4 ∧ x % 16 ≤ 4 ∧ 5 * (x / 16) + x % 16 < t ∧ zco mem q (5 * (x / 16) + x % 16) ≠ 0
            · rw [if_pos hc, if_pos ⟨hc.1, hc.2.1, by omega, hc.2.2.2⟩]
            · rw [if_neg hc, if_neg (fun z => hc ⟨z.1, z.2.1, by omega, z.2.2.2⟩)]
        · intro q hq; rw [zu_row hq]; exact h3 q hq
        · omega
  refine lp6 ((25 - 0 : Int)).toNat.succ 0 me ?_ ?_ ?_ ?_ ?_
  · first | omega | assumption | (intros; omega)
  · first | omega | assumption | (intros; omega)
  · intro x q1 q2; rw [f1 x q1 q2, if_neg (by omega)]
  · exact g1
  · omega

set_option maxRecDepth 100000 in
set_option maxHeartbeats 4000000 in
theorem sp_X11_wrapsSum {l : Launch} {L : Nat} {mem : zMem} {Q : zQ} (f : Int → Int) (n : Int) (a : Int) (b : Int) (hp : zPr (mem 67 1)) (hTx : zT mem a) (hTy : zT mem b) (hH : zHu (zP2 (zco mem a) (zco mem b)) f n) (k : ∀ (mem2 : zMem), (zCs mem2 f n) → ((∀ q : Nat, q ≠ 67 → q ≠ 84 → q ≠ 85 → mem2 q = mem q) ∧ ∀ s : Int, s ≠ 28 → mem2 67 s = mem 67 s) → Q none (zS L) mem2) : zw_Ok l mm_X11_wrapsSum [zR 67, zI a, zI b] (zS L) mem Q := by
  refine zw_okA (fun hA => ?_)
  have rg_a : -2147483648 ≤ a ∧ a < 2147483648 := hA.2.1
  have rg_b : -2147483648 ≤ b ∧ b < 2147483648 := hA.2.2.1
  refine zw_enter (by decide) (Nat.le_of_ble_eq_true rfl) rfl ?_
  show zw_Wp l mm_X11_wrapsSum (zS L) 0 [some (zR 67), some (zI a), some (zI b), none, none] [] mem 0 0 Q
  refine wp_aload_n dd_X11_wrapsSum_0 rfl ?_
  refine wp_callV (M' := mm_X11_clears) (As := []) (rest := []) dd_X11_wrapsSum_1 lk_X11_280 mV_X11_clears kk_67 (zlt rfl) ⟨_, _, rfl⟩ rfl (by decide) (by decide) (Nat.le_of_ble_eq_true rfl) rfl (sp_X11_clears    (fun me f1 g1 => ?_))
  show zw_Wp l mm_X11_wrapsSum (zS L) 4 [some (zR 67), some (zI a), some (zI b), none, none] [] me 0 0 Q
  refine wp_iconst dd_X11_wrapsSum_4 (zr_lit rfl) ?_
  refine wp_istore_n (ls2 := [some (zR 67), some (zI a), some (zI b), some (zI 0), none]) dd_X11_wrapsSum_5 rfl (by decide) rfl ?_
  have lp6 : ∀ (nf : Nat) (s : Int) (mm : zMem), (0 ≤ s) → (s ≤ 25) → (∀ x : Int, 0 ≤ x → x < 144 → (mm 84 x ≠ 0 ↔ ∃ s9 u9 : Int, (0 ≤ s9 ∧ s9 < 25) ∧ (0 ≤ u9 ∧ u9 < 25) ∧ zco mem a s9 ≠ 0 ∧ zco mem b u9 ≠ 0 ∧ x = 16 * (s9 / 5 + u9 / 5) + s9 % 5 + u9 % 5 ∧ (s9 < s))) → (∀ q : Nat, q ≠ 84 → mm q = mem q) → (25 - s) < (nf : Int) → zw_Wp l mm_X11_wrapsSum (zS L) 6 [some (zR 67), some (zI a), some (zI b), some (zI s), none] [] mm 0 0 Q := by
    intro nf
    induction nf with
    | zero =>
      intro s mm h0 h1 h2 h3 hmu
      exfalso; omega
    | succ nf ih6 =>
      intro s mm h0 h1 h2 h3 hmu
      have hkk : zkp mem mm := ⟨by rw [h3 67 (by decide)], by rw [h3 67 (by decide)], h3 69 (by decide), h3 70 (by decide), h3 71 (by decide)⟩
      refine wp_iload_n dd_X11_wrapsSum_6 rfl ?_
      refine wp_bipush dd_X11_wrapsSum_7 (by decide) ?_
      refine wp_icmp_ge (tgt := 93) dd_X11_wrapsSum_9 (by decide) (fun c9_1 => ?_) (fun c9_1 => ?_)
      · skip
        refine wp_aload_n dd_X11_wrapsSum_93 rfl ?_
        refine wp_callV (M' := mm_X11_wraps) (As := []) (rest := []) dd_X11_wrapsSum_94 lk_X11_283 mV_X11_wraps kk_67 (zlt rfl) ⟨_, _, rfl⟩ rfl (by decide) (by decide) (Nat.le_of_ble_eq_true rfl) rfl (sp_X11_wraps (zP2 (zco mem a) (zco mem b)) f n  hH (by
                intro x q1 q2
                rw [h2 x q1 q2]
                unfold zP2
                exact ⟨fun ⟨s9, u9, z1, z2, z3, z4, z5, z6⟩ => ⟨s9, u9, z1, z2, z3, z4, z5⟩, fun ⟨s9, u9, z1, z2, z3, z4, z5⟩ => ⟨s9, u9, z1, z2, z3, z4, z5, by omega⟩⟩) (fun mz fz gz => ?_))
        show zw_Wp l mm_X11_wrapsSum (zS L) 97 [some (zR 67), some (zI a), some (zI b), some (zI s), none] [] mz 0 0 Q
        refine wp_return (st := []) dd_X11_wrapsSum_97 rfl ?_
        exact k mz fz ⟨fun q q1 q2 q3 => (gz.1 q q1 q3).trans (h3 q q2), fun s hs => by rw [gz.2 s hs, h3 67 (by decide)]⟩
      · skip
        refine wp_aload_n dd_X11_wrapsSum_12 rfl ?_
        refine wp_iload_n dd_X11_wrapsSum_13 rfl ?_
        refine wp_iload_n dd_X11_wrapsSum_14 rfl ?_
        refine wp_iconst dd_X11_wrapsSum_15 (zr_lit rfl) ?_
        refine wp_idivP dd_X11_wrapsSum_16 (by omega) (by omega) ?_
        refine wp_iload_n dd_X11_wrapsSum_17 rfl ?_
        refine wp_iconst dd_X11_wrapsSum_18 (zr_lit rfl) ?_
        refine wp_iremP dd_X11_wrapsSum_19 (by omega) (by omega) ?_
        refine wp_callV (M' := mm_X11_isTerm) (As := [zI a, zI (s / 5), zI (s % 5)]) (rest := []) dd_X11_wrapsSum_20 lk_X11_111 mV_X11_isTerm kk_67 (zlt rfl) ⟨_, _, rfl⟩ rfl (by decide) (by decide) (Nat.le_of_ble_eq_true rfl) rfl (sp_X11_isTerm2 mem a (s / 5) (s % 5) hkk hp hTx (by omega) (by omega) ?_)
        show zw_Wp l mm_X11_wrapsSum (zS L) 23 [some (zR 67), some (zI a), some (zI b), some (zI s), none] [zI (if zco mem a (5 * (s / 5) + (s % 5)) = 0 then 0 else 1)] mm 0 0 Q
        refine wp_if_ne (tgt := 29) dd_X11_wrapsSum_23 (by decide) (fun c23_2 => ?_) (fun c23_2 => ?_)
        · skip
          have hz : zco mem a s ≠ 0 := fun z => c23_2 (by rw [show 5 * (s / 5) + s % 5 = s by omega, if_pos z])
          refine wp_iconst dd_X11_wrapsSum_29 (zr_lit rfl) ?_
          refine wp_istore (ls2 := [some (zR 67), some (zI a), some (zI b), some (zI s), some (zI 0)]) dd_X11_wrapsSum_30 rfl (by decide) rfl ?_
          have lp32 : ∀ (nf : Nat) (u : Int) (mm : zMem), (0 ≤ u) → (u ≤ 25) → (∀ x : Int, 0 ≤ x → x < 144 → (mm 84 x ≠ 0 ↔ ∃ s9 u9 : Int, (0 ≤ s9 ∧ s9 < 25) ∧ (0 ≤ u9 ∧ u9 < 25) ∧ zco mem a s9 ≠ 0 ∧ zco mem b u9 ≠ 0 ∧ x = 16 * (s9 / 5 + u9 / 5) + s9 % 5 + u9 % 5 ∧ (s9 < s ∨ (s9 = s ∧ u9 < u)))) → (∀ q : Nat, q ≠ 84 → mm q = mem q) → (25 - u) < (nf : Int) → zw_Wp l mm_X11_wrapsSum (zS L) 32 [some (zR 67), some (zI a), some (zI b), some (zI s), some (zI u)] [] mm 0 0 Q := by
            intro nf
            induction nf with
            | zero =>
              intro u mm u0 u1 h2 h3 hmu
              exfalso; omega
            | succ nf ih32 =>
              intro u mm u0 u1 h2 h3 hmu
              have hkk : zkp mem mm := ⟨by rw [h3 67 (by decide)], by rw [h3 67 (by decide)], h3 69 (by decide), h3 70 (by decide), h3 71 (by decide)⟩
              refine wp_iload dd_X11_wrapsSum_32 rfl ?_
              refine wp_bipush dd_X11_wrapsSum_34 (by decide) ?_
              refine wp_icmp_ge (tgt := 87) dd_X11_wrapsSum_36 (by decide) (fun c36_3 => ?_) (fun c36_3 => ?_)
              · skip
                refine wp_iincC (ls2 := [some (zR 67), some (zI a), some (zI b), some (zI (s + 1)), some (zI u)]) dd_X11_wrapsSum_87 rfl rfl (by decide) (by omega) rfl ?_
                refine wp_goto (tgt := 6) dd_X11_wrapsSum_90 (by decide) ?_
                refine wp_ls (zw_sub_of (a := [some (zR 67), some (zI a), some (zI b), some (zI (s + 1)), none]) (And.intro rfl (And.intro rfl (And.intro rfl (And.intro rfl (trivial)))))) ?_
                refine ih6 (s + 1) mm ?_ ?_ ?_ ?_ ?_
                · first | omega | assumption | (intros; omega)
                · first | omega | assumption | (intros; omega)
                · intro x q1 q2
                  rw [h2 x q1 q2]
                  first
                  | exact ⟨fun ⟨s9, u9, z1, z2, z3, z4, z5, z6⟩ => ⟨s9, u9, z1, z2, z3, z4, z5, by omega⟩, fun ⟨s9, u9, z1, z2, z3, z4, z5, z6⟩ => ⟨s9, u9, z1, z2, z3, z4, z5, by by_cases e : s9 = s; exact absurd (by rw [e]; exact hz) z3; omega⟩⟩
                  | exact ⟨fun ⟨s9, u9, z1, z2, z3, z4, z5, z6⟩ => ⟨s9, u9, z1, z2, z3, z4, z5, by omega⟩, fun ⟨s9, u9, z1, z2, z3, z4, z5, z6⟩ => ⟨s9, u9, z1, z2, z3, z4, z5, by omega⟩⟩
                · first | assumption | exact h3
                · omega
              · skip
                refine wp_aload_n dd_X11_wrapsSum_39 rfl ?_
                refine wp_iload_n dd_X11_wrapsSum_40 rfl ?_
                refine wp_iload dd_X11_wrapsSum_41 rfl ?_
                refine wp_iconst dd_X11_wrapsSum_43 (zr_lit rfl) ?_
                refine wp_idivP dd_X11_wrapsSum_44 (by omega) (by omega) ?_
                refine wp_iload dd_X11_wrapsSum_45 rfl ?_
                refine wp_iconst dd_X11_wrapsSum_47 (zr_lit rfl) ?_
                refine wp_iremP dd_X11_wrapsSum_48 (by omega) (by omega) ?_
                refine wp_callV (M' := mm_X11_isTerm) (As := [zI b, zI (u / 5), zI (u % 5)]) (rest := []) dd_X11_wrapsSum_49 lk_X11_111 mV_X11_isTerm kk_67 (zlt rfl) ⟨_, _, rfl⟩ rfl (by decide) (by decide) (Nat.le_of_ble_eq_true rfl) rfl (sp_X11_isTerm2 mem b (u / 5) (u % 5) hkk hp hTy (by omega) (by omega) ?_)
                show zw_Wp l mm_X11_wrapsSum (zS L) 52 [some (zR 67), some (zI a), some (zI b), some (zI s), some (zI u)] [zI (if zco mem b (5 * (u / 5) + (u % 5)) = 0 then 0 else 1)] mm 0 0 Q
                refine wp_if_eq (tgt := 81) dd_X11_wrapsSum_52 (by decide) (fun c52_4 => ?_) (fun c52_4 => ?_)
                · skip
                  have hy : zco mem b u = 0 := by
                    by_cases z : zco mem b u = 0
                    · exact z
                    · rw [show 5 * (u / 5) + u % 5 = u by omega, if_neg z] at c52_4; omega
                  refine wp_iincC (ls2 := [some (zR 67), some (zI a), some (zI b), some (zI s), some (zI (u + 1))]) dd_X11_wrapsSum_81 rfl rfl (by decide) (by omega) rfl ?_
                  refine wp_goto (tgt := 32) dd_X11_wrapsSum_84 (by decide) ?_
                  refine ih32 (u + 1) mm ?_ ?_ ?_ ?_ ?_
                  · first | omega | assumption | (intros; omega)
                  · first | omega | assumption | (intros; omega)
                  · intro x q1 q2
                    first
                    | (rw [h2 x q1 q2]; exact ⟨fun ⟨s9, u9, z1, z2, z3, z4, z5, z6⟩ => ⟨s9, u9, z1, z2, z3, z4, z5, by omega⟩, fun ⟨s9, u9, z1, z2, z3, z4, z5, z6⟩ => ⟨s9, u9, z1, z2, z3, z4, z5, by by_cases e : u9 = u; exact absurd (by rw [e]; exact hy) z4; omega⟩⟩)
                    | (by_cases hx : x = 16 * (s / 5 + u / 5) + s % 5 + u % 5
                       · rw [hx, zu_s]; exact ⟨fun _ => ⟨s, u, by omega, by omega, hz, hy, rfl, by omega⟩, fun _ => by decide⟩
                       · rw [zu_n (Or.inr hx), h2 x q1 q2]
                         exact ⟨fun ⟨s9, u9, z1, z2, z3, z4, z5, z6⟩ => ⟨s9, u9, z1, z2, z3, z4, z5, by omega⟩, fun ⟨s9, u9, z1, z2, z3, z4, z5, z6⟩ => ⟨s9, u9, z1, z2, z3, z4, z5, by by_cases e : s9 = s ∧ u9 = u; exact absurd (by rw [z5, e.1, e.2]) hx; omega⟩⟩)
                  · first | assumption | (intro q hq; rw [zu_row hq]; exact h3 q hq)
                  · omega
                · skip
                  have hy : zco mem b u ≠ 0 := fun z => c52_4 (by rw [show 5 * (u / 5) + u % 5 = u by omega, if_pos z])
                  refine wp_aload_n dd_X11_wrapsSum_55 rfl ?_
                  refine wp_getR dd_X11_wrapsSum_56 gf_X11_76 rfl kk_67 (by decide) (zlt rfl) rr_67_26 ?_
                  refine wp_bipush dd_X11_wrapsSum_59 (by decide) ?_
                  refine wp_iload_n dd_X11_wrapsSum_61 rfl ?_
                  refine wp_iconst dd_X11_wrapsSum_62 (zr_lit rfl) ?_
                  refine wp_idivP dd_X11_wrapsSum_63 (by omega) (by omega) ?_
                  refine wp_iload dd_X11_wrapsSum_64 rfl ?_
                  refine wp_iconst dd_X11_wrapsSum_66 (zr_lit rfl) ?_
                  refine wp_idivP dd_X11_wrapsSum_67 (by omega) (by omega) ?_
                  refine wp_iaddC dd_X11_wrapsSum_68 (by omega) ?_
                  refine wp_imulC dd_X11_wrapsSum_69 (by omega) ?_
                  refine wp_iload_n dd_X11_wrapsSum_70 rfl ?_
                  refine wp_iconst dd_X11_wrapsSum_71 (zr_lit rfl) ?_
                  refine wp_iremP dd_X11_wrapsSum_72 (by omega) (by omega) ?_
                  refine wp_iaddC dd_X11_wrapsSum_73 (by omega) ?_
                  refine wp_iload dd_X11_wrapsSum_74 rfl ?_
                  refine wp_iconst dd_X11_wrapsSum_76 (zr_lit rfl) ?_
                  refine wp_iremP dd_X11_wrapsSum_77 (by omega) (by omega) ?_
                  refine wp_iaddC dd_X11_wrapsSum_78 (by omega) ?_
                  refine wp_iconst dd_X11_wrapsSum_79 (zr_lit rfl) ?_
                  refine wp_bast dd_X11_wrapsSum_80 kk_84 (zlt rfl) (by omega) (by omega) (by omega) ?_
                  refine wp_iincC (ls2 := [some (zR 67), some (zI a), some (zI b), some (zI s), some (zI (u + 1))]) dd_X11_wrapsSum_81 rfl rfl (by decide) (by omega) rfl ?_
                  refine wp_goto (tgt := 32) dd_X11_wrapsSum_84 (by decide) ?_
                  refine ih32 (u + 1) (zu mm 84 (((16 * ((s / 5) + (u / 5))) + (s % 5)) + (u % 5)) 1) ?_ ?_ ?_ ?_ ?_
                  · first | omega | assumption | (intros; omega)
                  · first | omega | assumption | (intros; omega)
                  · intro x q1 q2
                    first
                    | (rw [h2 x q1 q2]; exact ⟨fun ⟨s9, u9, z1, z2, z3, z4, z5, z6⟩ => ⟨s9, u9, z1, z2, z3, z4, z5, by omega⟩, fun ⟨s9, u9, z1, z2, z3, z4, z5, z6⟩ => ⟨s9, u9, z1, z2, z3, z4, z5, by by_cases e : u9 = u; exact absurd (by rw [e]; exact hy) z4; omega⟩⟩)
                    | (by_cases hx : x = 16 * (s / 5 + u / 5) + s % 5 + u % 5
                       · rw [hx, zu_s]; exact ⟨fun _ => ⟨s, u, by omega, by omega, hz, hy, rfl, by omega⟩, fun _ => by decide⟩
                       · rw [zu_n (Or.inr hx), h2 x q1 q2]
                         exact ⟨fun ⟨s9, u9, z1, z2, z3, z4, z5, z6⟩ => ⟨s9, u9, z1, z2, z3, z4, z5, by omega⟩, fun ⟨s9, u9, z1, z2, z3, z4, z5, z6⟩ => ⟨s9, u9, z1, z2, z3, z4, z5, by by_cases e : s9 = s ∧ u9 = u; exact absurd (by rw [z5, e.1, e.2]) hx; omega⟩⟩)
                  · first | assumption | (intro q hq; rw [zu_row hq]; exact h3 q hq)
                  · omega
          refine lp32 ((25 - 0 : Int)).toNat.succ 0 mm ?_ ?_ ?_ ?_ ?_
          · first | omega | assumption | (intros; omega)
          · first | omega | assumption | (intros; omega)
          · intro x q1 q2; rw [h2 x q1 q2]; exact ⟨fun ⟨s9, u9, z1, z2, z3, z4, z5, z6⟩ => ⟨s9, u9, z1, z2, z3, z4, z5, by omega⟩, fun ⟨s9, u9, z1, z2, z3, z4, z5, z6⟩ => ⟨s9, u9, z1, z2, z3, z4, z5, by omega⟩⟩
          · first | omega | assumption | (intros; omega)
          · omega
        · skip
          have hz : zco mem a s = 0 := by
            by_cases z : zco mem a s = 0
            · exact z
            · rw [show 5 * (s / 5) + s % 5 = s by omega, if_neg z] at c23_2; omega
          refine wp_goto (tgt := 87) dd_X11_wrapsSum_26 (by decide) ?_
          refine wp_iincC (ls2 := [some (zR 67), some (zI a), some (zI b), some (zI (s + 1)), none]) dd_X11_wrapsSum_87 rfl rfl (by decide) (by omega) rfl ?_
          refine wp_goto (tgt := 6) dd_X11_wrapsSum_90 (by decide) ?_
          refine ih6 (s + 1) mm ?_ ?_ ?_ ?_ ?_
          · first | omega | assumption | (intros; omega)
          · first | omega | assumption | (intros; omega)
          · intro x q1 q2
            rw [h2 x q1 q2]
            first
            | exact ⟨fun ⟨s9, u9, z1, z2, z3, z4, z5, z6⟩ => ⟨s9, u9, z1, z2, z3, z4, z5, by omega⟩, fun ⟨s9, u9, z1, z2, z3, z4, z5, z6⟩ => ⟨s9, u9, z1, z2, z3, z4, z5, by by_cases e : s9 = s; exact absurd (by rw [e]; exact hz) z3; omega⟩⟩
            | exact ⟨fun ⟨s9, u9, z1, z2, z3, z4, z5, z6⟩ => ⟨s9, u9, z1, z2, z3, z4, z5, by omega⟩, fun ⟨s9, u9, z1, z2, z3, z4, z5, z6⟩ => ⟨s9, u9, z1, z2, z3, z4, z5, by omega⟩⟩
          · first | assumption | exact h3
          · omega
  refine lp6 ((25 - 0 : Int)).toNat.succ 0 me ?_ ?_ ?_ ?_ ?_
  · first | omega | assumption | (intros; omega)
  · first | omega | assumption | (intros; omega)
  · intro x q1 q2; rw [f1 x q1 q2]; exact ⟨fun z => absurd rfl z, fun ⟨s9, u9, z⟩ => by omega⟩
  · exact g1
  · omega

