/-! ===== reading: all terms ===== -/
theorem zte_c (X : Int → Int) (a : Int) : a ≤ zte X a ∧ zte X a ≤ a + 8 := by
  have c0 := zpN_c X a
  have c1 := zvP_c X 120 (zpN X a)
  have c2 := zvP_c X 121 (zt2 X a)
  have d2 : zpP X 120 (zpN X a) = zt2 X a := rfl
  have d4 : zpP X 121 (zt2 X a) = zt3 X a := rfl
  rw [d2] at c1
  rw [d4] at c2
  unfold zte
  split <;> omega
theorem znx_k {m m2 : zMem} {X : Int → Int} (h1 : m2 67 11 = m 67 11) (h2 : m2 74 = m 74) (h : znx m = X) : znx m2 = X := by
  rw [← h]
  funext i
  unfold znx
  rw [h1, h2]
theorem zto_01 (X : Int → Int) (a : Int) : zto X a = 0 ∨ zto X a = 1 := by
  unfold zto
  split <;> omega
/-- the sums behind the term at a -/
def zS1 (X : Int → Int) (a s : Int) (S : Int → Int) : Int → Int := if zto X a = 1 then zad S (5 * zti X a + ztj X a) (s * zvN X a) else S
theorem zS1_at {X : Int → Int} {a s p : Int} {S : Int → Int} {f g : Int → Int} (hf : ∀ t : Int, 0 ≤ t → t < 25 → f t = S t % p) (hg : ∀ t : Int, g t = if zto X a = 1 ∧ t = 5 * zti X a + ztj X a then (f t + s * zvN X a) % p else f t) : ∀ t : Int, 0 ≤ t → t < 25 → g t = zS1 X a s S t % p := by
  intro t h1 h2
  rw [hg t]
  unfold zS1
  by_cases q : zto X a = 1
  · rw [if_pos q]
    unfold zad
    by_cases e : t = 5 * zti X a + ztj X a
    · rw [if_pos ⟨q, e⟩, if_pos e, hf t h1 h2, Int.emod_add_emod]
    · rw [if_neg (fun z => e z.2), if_neg e]; exact hf t h1 h2
  · rw [if_neg (fun z => q z.1), if_neg q]; exact hf t h1 h2
theorem zrun_S1 {X : Int → Int} {N : Int} {F : Nat} {a s : Int} {S : Int → Int} : (zto X a = 0 ∧ zrun X N (F + 1) a s S = (0, zte X a, zS1 X a s S)) ∨ (zto X a = 1 ∧ zrun X N (F + 1) a s S = zrst X N F (zte X a) (zS1 X a s S)) := by
  rcases zto_01 X a with h | h
  · refine Or.inl ⟨h, ?_⟩
    rw [zrun_no h]
    unfold zS1
    rw [if_neg (by omega)]
  · refine Or.inr ⟨h, ?_⟩
    rw [zrun_yes (by omega), (zto_c (show zto X a ≠ 0 by omega)).2.2.2.2.1]
    unfold zS1
    rw [if_pos h]

set_option maxRecDepth 100000 in
set_option maxHeartbeats 4000000 in
theorem sp_X11_readsAll {l : Launch} {L : Nat} {mem : zMem} {Q : zQ} (X : Int → Int)  (hp : zPr (mem 67 1)) (hX : znx mem = X) (hAt : mem 67 12 = 0) (ht : 0 ≤ mem 67 11 ∧ mem 67 11 ≤ 72) (k : ∀ (r : Int) (mem2 : zMem), (r = (zall X (mem 67 11)).1) → (mem2 67 12 = (zall X (mem 67 11)).2.1 ∧ 0 ≤ mem2 67 12 ∧ mem2 67 12 ≤ 110) → (∀ s : Int, s ≠ 12 → mem2 67 s = mem 67 s) → (∀ t : Int, 0 ≤ t → t < 25 → mem2 75 t = (zall X (mem 67 11)).2.2 t % mem 67 1) → (∀ q : Nat, q ≠ 67 → q ≠ 75 → mem2 q = mem q) → Q (some (zI r)) (zS L) mem2) : zw_Ok l mm_X11_readsAll [zR 67] (zS L) mem Q := by
  refine zw_enter (by decide) (Nat.le_of_ble_eq_true rfl) rfl ?_
  show zw_Wp l mm_X11_readsAll (zS L) 0 [some (zR 67), none] [] mem 0 0 Q
  have hpr := hp.rg
  refine wp_iconst dd_X11_readsAll_0 (zr_lit rfl) ?_
  refine wp_istore_n (ls2 := [some (zR 67), some (zI 0)]) dd_X11_readsAll_1 rfl (by decide) rfl ?_
  have lp2 : ∀ (nf : Nat) (i : Int) (mc : zMem), (0 ≤ i) → (i ≤ 25) → (∀ q : Nat, q ≠ 75 → mc q = mem q) → (∀ t : Int, 0 ≤ t → t < i → mc 75 t = 0) → (25 - i) < (nf : Int) → zw_Wp l mm_X11_readsAll (zS L) 2 [some (zR 67), some (zI i)] [] mc 0 0 Q := by
    intro nf
    induction nf with
    | zero =>
      intro i mc i0 i1 f1 f2 hmu
      exfalso; omega
    | succ nf ih2 =>
      intro i mc i0 i1 f1 f2 hmu
      refine wp_iload_n dd_X11_readsAll_2 rfl ?_
      refine wp_bipush dd_X11_readsAll_3 (by decide) ?_
      refine wp_icmp_ge (tgt := 21) dd_X11_readsAll_5 (by decide) (fun c5_1 => ?_) (fun c5_1 => ?_)
      · skip
        have hXc : znx mc = X := znx_k (by rw [f1 67 (by decide)]) (f1 74 (by decide)) hX
        have hAc : mc 67 12 = 0 := by rw [f1 67 (by decide)]; exact hAt
        have h11 : mc 67 11 = mem 67 11 := by rw [f1 67 (by decide)]
        have h1c : mc 67 1 = mem 67 1 := by rw [f1 67 (by decide)]
        refine wp_aload_n dd_X11_readsAll_21 rfl ?_
        refine wp_aload_n dd_X11_readsAll_22 rfl ?_
        refine wp_callV (M' := mm_X11_next) (As := []) (rest := [zR 67]) dd_X11_readsAll_23 lk_X11_129 mV_X11_next kk_67 (zlt rfl) ⟨_, _, rfl⟩ rfl (by decide) (by decide) (Nat.le_of_ble_eq_true rfl) rfl (sp_X11_next2 X 0  hXc hAc (by omega) (by omega) ?_)
        show zw_Wp l mm_X11_readsAll (zS L) 26 [some (zR 67), some (zI i)] [zI (X 0), zR 67] mc 0 0 Q
        have ih36 : ∀ (a : Int), ((a = 1 ∧ X 0 = 45) ∨ (a = 0 ∧ X 0 ≠ 45)) → (0 : Int) < 1 → zw_Wp l mm_X11_readsAll (zS L) 36 [some (zR 67), none] [zI a, zR 67] mc 0 0 Q := by
          intro a ha hone
          refine wp_putzI 12 rfl dd_X11_readsAll_36 pf_X11_126 rfl kk_67 (by decide) (zlt rfl) ?_
          refine wp_aload_n dd_X11_readsAll_39 rfl ?_
          refine wp_aload_n dd_X11_readsAll_40 rfl ?_
          refine wp_getV 12 (v := a) rfl (by rw [zu_s]) dd_X11_readsAll_41 gf_X11_126 rfl kk_67 (by decide) (zlt rfl) ?_
          have ih53 : ∀ (ng : Int), ((ng = 1 ∧ a = 1) ∨ (ng = 0 ∧ a = 0)) → (0 : Int) < 1 → zw_Wp l mm_X11_readsAll (zS L) 53 [some (zR 67), none] [zI ng, zR 67] (zu mc 67 12 a) 0 0 Q := by
            intro ng hn hone
            have hall : zall X (mem 67 11) = zrun X (mem 67 11) (79 + 1) a (if ng = 0 then 1 else -1) (fun _ => 0) := by
              unfold zall
              rcases ha with ⟨h1, h2⟩ | ⟨h1, h2⟩
              · rw [if_pos h2, if_pos h2, h1, if_neg (by omega)]
              · rw [if_neg h2, if_neg h2, h1, if_pos (by omega)]
            have hrS := zrun_S1 (X := X) (N := mem 67 11) (F := 79) (a := a) (s := if ng = 0 then 1 else -1) (S := fun _ => 0)
            rw [← hall] at hrS
            have hte := zte_c X a
            refine wp_callV (M' := mm_X11_readsTerm) (As := [zI ng]) (rest := []) dd_X11_readsAll_53 lk_X11_140 mV_X11_readsTerm kk_67 (zlt rfl) ⟨_, _, rfl⟩ rfl (by decide) (by decide) (Nat.le_of_ble_eq_true rfl) rfl (sp_X11_readsTerm X (a) ng (by rw [zu_n (Or.inr (by decide)), h1c]; exact hp) (znx_k (zu_n (Or.inr (by decide))) (zu_row (by decide)) hXc) zu_s (by omega) (by rw [zu_n (Or.inr (by decide))]; omega) (by omega) (fun t q1 q2 => by rw [zu_row (by decide), zu_n (Or.inr (by decide)), f2 t q1 (by omega)]; omega) (fun rt mt ft pt st9 dt rt9 => ?_))
            show zw_Wp l mm_X11_readsAll (zS L) 56 [some (zR 67), none] [zI rt] mt 0 0 Q
            rw [zu_n (Or.inr (by decide)), h1c, zu_row (by decide)] at dt
            refine wp_istore_n (ls2 := [some (zR 67), some (zI rt)]) dd_X11_readsAll_56 rfl (by decide) rfl ?_
            have lp57 : ∀ (nf : Nat) (b : Int) (mm : zMem) (F : Nat) (S : Int → Int), (b = 0 ∨ b = 1) → (∀ s : Int, s ≠ 12 → mm 67 s = mem 67 s) → (∀ q : Nat, q ≠ 67 → q ≠ 75 → mm q = mem q) → (0 ≤ mm 67 12 ∧ mm 67 12 ≤ 110) → ((b = 0 ∧ zall X (mem 67 11) = (0, mm 67 12, S)) ∨ (b = 1 ∧ zall X (mem 67 11) = zrst X (mem 67 11) F (mm 67 12) S)) → (∀ t : Int, 0 ≤ t → t < 25 → mm 75 t = S t % mem 67 1) → (b = 1 → mem 67 11 ≤ mm 67 12 + F) → ((F : Int)) < (nf : Int) → zw_Wp l mm_X11_readsAll (zS L) 57 [some (zR 67), some (zI b)] [] mm 0 0 Q := by
              intro nf
              induction nf with
              | zero =>
                intro b mm F S hb h67 hq hp9 hc h75 hF hmu
                exfalso; omega
              | succ nf ih57 =>
                intro b mm F S hb h67 hq hp9 hc h75 hF hmu
                have hXm : znx mm = X := znx_k (h67 11 (by decide)) (hq 74 (by decide) (by decide)) hX
                have m11 : mm 67 11 = mem 67 11 := h67 11 (by decide)
                have m1 : mm 67 1 = mem 67 1 := h67 1 (by decide)
                have hlt : X (mm 67 12) = 43 ∨ X (mm 67 12) = 45 → mm 67 12 < mem 67 11 := fun h => by rw [← m11]; rcases h with h | h; exact znx_lt hXm h (by decide); exact znx_lt hXm h (by decide)
                refine wp_iload_n dd_X11_readsAll_57 rfl ?_
                refine wp_if_eq (tgt := 118) dd_X11_readsAll_58 (by decide) (fun c58_2 => ?_) (fun c58_2 => ?_)
                · skip
                  refine wp_iload_n dd_X11_readsAll_118 rfl ?_
                  refine wp_if_eq (tgt := 137) dd_X11_readsAll_119 (by decide) (fun c119_3 => ?_) (fun c119_3 => ?_)
                  · skip
                    refine wp_iconst dd_X11_readsAll_137 (zr_lit rfl) ?_
                    refine wp_zreturn (st := []) dd_X11_readsAll_138 rfl (by omega) ?_
                    have hR : zall X (mem 67 11) = (0, mm 67 12, S) := by
                      rcases hc with h | h
                      · first | exact h.2 | (exfalso; omega)
                      · first
                        | (exfalso; omega)
                        | (rw [h.2]; unfold zrst; rw [if_neg (by omega)]; first | rw [if_pos (by omega)] | rw [if_neg (by omega)])
                    exact k _ _ (by rw [hR]) ⟨by rw [hR], hp9⟩ h67 (fun t q1 q2 => by rw [hR]; exact h75 t q1 q2) hq
                  · skip
                    refine wp_aload_n dd_X11_readsAll_122 rfl ?_
                    refine wp_getZ 12 rfl dd_X11_readsAll_123 gf_X11_126 rfl kk_67 (by decide) (zlt rfl) ?_
                    refine wp_aload_n dd_X11_readsAll_126 rfl ?_
                    refine wp_getZ 11 rfl dd_X11_readsAll_127 gf_X11_123 rfl kk_67 (by decide) (zlt rfl) ?_
                    refine wp_icmp_ne (tgt := 137) dd_X11_readsAll_130 (by decide) (fun c130_4 => ?_) (fun c130_4 => ?_)
                    · skip
                      refine wp_iconst dd_X11_readsAll_137 (zr_lit rfl) ?_
                      refine wp_zreturn (st := []) dd_X11_readsAll_138 rfl (by omega) ?_
                      have hR : zall X (mem 67 11) = (0, mm 67 12, S) := by
                        rcases hc with h | h
                        · first | exact h.2 | (exfalso; omega)
                        · first
                          | (exfalso; omega)
                          | (rw [h.2]; unfold zrst; rw [if_neg (by omega)]; first | rw [if_pos (by omega)] | rw [if_neg (by omega)])
                      exact k _ _ (by rw [hR]) ⟨by rw [hR], hp9⟩ h67 (fun t q1 q2 => by rw [hR]; exact h75 t q1 q2) hq
                    · skip
                      refine wp_iconst dd_X11_readsAll_133 (zr_lit rfl) ?_
                      refine wp_goto (tgt := 138) dd_X11_readsAll_134 (by decide) ?_
                      refine wp_zreturn (st := []) dd_X11_readsAll_138 rfl (by omega) ?_
                      have hR : zall X (mem 67 11) = (1, mm 67 12, S) := by
                        rcases hc with h | h
                        · first | exact h.2 | (exfalso; omega)
                        · first
                          | (exfalso; omega)
                          | (rw [h.2]; unfold zrst; rw [if_neg (by omega)]; first | rw [if_pos (by omega)] | rw [if_neg (by omega)])
                      exact k _ _ (by rw [hR]) ⟨by rw [hR], hp9⟩ h67 (fun t q1 q2 => by rw [hR]; exact h75 t q1 q2) hq
                · skip
                  have hb1 : b = 1 := by omega
                  have ih79 : (X (mm 67 12) = 43 ∨ X (mm 67 12) = 45) → (0 : Int) < 1 → zw_Wp l mm_X11_readsAll (zS L) 79 [some (zR 67), some (zI b)] [] mm 0 0 Q := by
                    intro  hsg hone
                    have hl9 := hlt hsg
                    have hF9 := hF hb1
                    have h74 : mm 74 (mm 67 12 + 1 - 1) = X (mm 67 12) := by rw [show mm 67 12 + 1 - 1 = mm 67 12 by omega, ← hXm]; unfold znx; rw [if_pos (by omega)]
                    refine wp_aload_n dd_X11_readsAll_79 rfl ?_
                    refine wp_dup dd_X11_readsAll_80 rfl ?_
                    refine wp_getZ 12 rfl dd_X11_readsAll_81 gf_X11_126 rfl kk_67 (by decide) (zlt rfl) ?_
                    refine wp_iconst dd_X11_readsAll_84 (zr_lit rfl) ?_
                    refine wp_iaddC dd_X11_readsAll_85 (by omega) ?_
                    refine wp_putzI 12 rfl dd_X11_readsAll_86 pf_X11_126 rfl kk_67 (by decide) (zlt rfl) ?_
                    refine wp_aload_n dd_X11_readsAll_89 rfl ?_
                    refine wp_aload_n dd_X11_readsAll_90 rfl ?_
                    refine wp_getR dd_X11_readsAll_91 gf_X11_46 rfl kk_67 (by decide) (zlt rfl) rr_67_9 ?_
                    refine wp_aload_n dd_X11_readsAll_94 rfl ?_
                    refine wp_getV 12 (v := (mm 67 12) + 1) rfl (by rw [zu_s]) dd_X11_readsAll_95 gf_X11_126 rfl kk_67 (by decide) (zlt rfl) ?_
                    refine wp_iconst dd_X11_readsAll_98 (zr_lit rfl) ?_
                    refine wp_isubC dd_X11_readsAll_99 (by omega) ?_
                    refine wp_ialdV (v := mm 74 (((mm 67 12) + 1) - 1)) (by rw [zu_row (by decide)]) dd_X11_readsAll_100 kk_74 (zlt rfl) (by omega) (by omega) ?_
                    refine wp_bipush dd_X11_readsAll_101 (by decide) ?_
                    refine wp_icmp_ne (tgt := 110) dd_X11_readsAll_103 (by decide) (fun c103_5 => ?_) (fun c103_5 => ?_)
                    · skip
                      have hsn : (if (0 : Int) = 0 then (1 : Int) else -1) = if X (mm 67 12) = 43 then 1 else -1 := by rw [if_pos rfl, if_pos (by omega)]
                      refine wp_iconst dd_X11_readsAll_110 (zr_lit rfl) ?_
                      refine wp_callV (M' := mm_X11_readsTerm) (As := [zI 0]) (rest := []) dd_X11_readsAll_111 lk_X11_140 mV_X11_readsTerm kk_67 (zlt rfl) ⟨_, _, rfl⟩ rfl (by decide) (by decide) (Nat.le_of_ble_eq_true rfl) rfl (sp_X11_readsTerm X (mm 67 12 + 1) 0 (by rw [zu_n (Or.inr (by decide)), m1]; exact hp) (znx_k (zu_n (Or.inr (by decide))) (zu_row (by decide)) hXm) zu_s (by omega) (by rw [zu_n (Or.inr (by decide))]; omega) (by omega) (fun t q1 q2 => by rw [zu_row (by decide), zu_n (Or.inr (by decide)), h75 t q1 q2, m1]; exact zm_rg (by omega)) (fun rt mt ft pt st9 dt rt9 => ?_))
                      show zw_Wp l mm_X11_readsAll (zS L) 114 [some (zR 67), some (zI b)] [zI rt] mt 0 0 Q
                      rw [zu_n (Or.inr (by decide)), m1, zu_row (by decide)] at dt
                      refine wp_istore_n (ls2 := [some (zR 67), some (zI rt)]) dd_X11_readsAll_114 rfl (by decide) rfl ?_
                      refine wp_goto (tgt := 57) dd_X11_readsAll_115 (by decide) ?_
                      refine ih57 rt mt (F - 1) (zS1 X (mm 67 12 + 1) (if X (mm 67 12) = 43 then 1 else -1) S) ?_ ?_ ?_ ?_ ?_ ?_ ?_ ?_
                      · rw [ft]; exact zto_01 X _
                      · intro s hs; rw [st9 s hs, zu_n (Or.inr hs)]; exact h67 s hs
                      · intro q q1 q2; rw [rt9 q q1 q2, zu_row q1]; exact hq q q1 q2
                      · have := zte_c X (mm 67 12 + 1); rw [pt]; omega
                      · rw [ft, pt]
                        have hcc : zall X (mem 67 11) = zrst X (mem 67 11) F (mm 67 12) S := by rcases hc with h | h; omega; exact h.2
                        unfold zrst at hcc
                        rw [if_pos hsg] at hcc
                        obtain ⟨F9, rfl⟩ : ∃ F9, F = F9 + 1 := ⟨F - 1, by omega⟩
                        rw [hcc]
                        exact zrun_S1
                      · exact zS1_at (f := mm 75) h75 (fun t => by rw [dt t, hsn])
                      · intro _; have := zte_c X (mm 67 12 + 1); rw [pt]; omega
                      · omega
                    · skip
                      have hsn : (if (1 : Int) = 0 then (1 : Int) else -1) = if X (mm 67 12) = 43 then 1 else -1 := by rw [if_neg (by decide), if_neg (by omega)]
                      refine wp_iconst dd_X11_readsAll_106 (zr_lit rfl) ?_
                      refine wp_goto (tgt := 111) dd_X11_readsAll_107 (by decide) ?_
                      refine wp_callV (M' := mm_X11_readsTerm) (As := [zI 1]) (rest := []) dd_X11_readsAll_111 lk_X11_140 mV_X11_readsTerm kk_67 (zlt rfl) ⟨_, _, rfl⟩ rfl (by decide) (by decide) (Nat.le_of_ble_eq_true rfl) rfl (sp_X11_readsTerm X (mm 67 12 + 1) 1 (by rw [zu_n (Or.inr (by decide)), m1]; exact hp) (znx_k (zu_n (Or.inr (by decide))) (zu_row (by decide)) hXm) zu_s (by omega) (by rw [zu_n (Or.inr (by decide))]; omega) (by omega) (fun t q1 q2 => by rw [zu_row (by decide), zu_n (Or.inr (by decide)), h75 t q1 q2, m1]; exact zm_rg (by omega)) (fun rt mt ft pt st9 dt rt9 => ?_))
                      show zw_Wp l mm_X11_readsAll (zS L) 114 [some (zR 67), some (zI b)] [zI rt] mt 0 0 Q
                      rw [zu_n (Or.inr (by decide)), m1, zu_row (by decide)] at dt
                      refine wp_istore_n (ls2 := [some (zR 67), some (zI rt)]) dd_X11_readsAll_114 rfl (by decide) rfl ?_
                      refine wp_goto (tgt := 57) dd_X11_readsAll_115 (by decide) ?_
                      refine ih57 rt mt (F - 1) (zS1 X (mm 67 12 + 1) (if X (mm 67 12) = 43 then 1 else -1) S) ?_ ?_ ?_ ?_ ?_ ?_ ?_ ?_
                      · rw [ft]; exact zto_01 X _
                      · intro s hs; rw [st9 s hs, zu_n (Or.inr hs)]; exact h67 s hs
                      · intro q q1 q2; rw [rt9 q q1 q2, zu_row q1]; exact hq q q1 q2
                      · have := zte_c X (mm 67 12 + 1); rw [pt]; omega
                      · rw [ft, pt]
                        have hcc : zall X (mem 67 11) = zrst X (mem 67 11) F (mm 67 12) S := by rcases hc with h | h; omega; exact h.2
                        unfold zrst at hcc
                        rw [if_pos hsg] at hcc
                        obtain ⟨F9, rfl⟩ : ∃ F9, F = F9 + 1 := ⟨F - 1, by omega⟩
                        rw [hcc]
                        exact zrun_S1
                      · exact zS1_at (f := mm 75) h75 (fun t => by rw [dt t, hsn])
                      · intro _; have := zte_c X (mm 67 12 + 1); rw [pt]; omega
                      · omega
                  refine wp_aload_n dd_X11_readsAll_61 rfl ?_
                  refine wp_callV (M' := mm_X11_next) (As := []) (rest := []) dd_X11_readsAll_62 lk_X11_129 mV_X11_next kk_67 (zlt rfl) ⟨_, _, rfl⟩ rfl (by decide) (by decide) (Nat.le_of_ble_eq_true rfl) rfl (sp_X11_next2 X (mm 67 12)  hXm rfl (by omega) (by omega) ?_)
                  show zw_Wp l mm_X11_readsAll (zS L) 65 [some (zR 67), some (zI b)] [zI (X (mm 67 12))] mm 0 0 Q
                  refine wp_bipush dd_X11_readsAll_65 (by decide) ?_
                  refine wp_icmp_eq (tgt := 79) dd_X11_readsAll_67 (by decide) (fun c67_6 => ?_) (fun c67_6 => ?_)
                  · skip
                    refine ih79  ?_ ?_
                    · first | omega | assumption | (intros; omega)
                    · omega
                  · skip
                    refine wp_aload_n dd_X11_readsAll_70 rfl ?_
                    refine wp_callV (M' := mm_X11_next) (As := []) (rest := []) dd_X11_readsAll_71 lk_X11_129 mV_X11_next kk_67 (zlt rfl) ⟨_, _, rfl⟩ rfl (by decide) (by decide) (Nat.le_of_ble_eq_true rfl) rfl (sp_X11_next2 X (mm 67 12)  hXm rfl (by omega) (by omega) ?_)
                    show zw_Wp l mm_X11_readsAll (zS L) 74 [some (zR 67), some (zI b)] [zI (X (mm 67 12))] mm 0 0 Q
                    refine wp_bipush dd_X11_readsAll_74 (by decide) ?_
                    refine wp_icmp_ne (tgt := 118) dd_X11_readsAll_76 (by decide) (fun c76_7 => ?_) (fun c76_7 => ?_)
                    · skip
                      refine wp_iload_n dd_X11_readsAll_118 rfl ?_
                      refine wp_if_eq (tgt := 137) dd_X11_readsAll_119 (by decide) (fun c119_8 => ?_) (fun c119_8 => ?_)
                      · skip
                        refine wp_iconst dd_X11_readsAll_137 (zr_lit rfl) ?_
                        refine wp_zreturn (st := []) dd_X11_readsAll_138 rfl (by omega) ?_
                        have hR : zall X (mem 67 11) = (0, mm 67 12, S) := by
                          rcases hc with h | h
                          · first | exact h.2 | (exfalso; omega)
                          · first
                            | (exfalso; omega)
                            | (rw [h.2]; unfold zrst; rw [if_neg (by omega)]; first | rw [if_pos (by omega)] | rw [if_neg (by omega)])
                        exact k _ _ (by rw [hR]) ⟨by rw [hR], hp9⟩ h67 (fun t q1 q2 => by rw [hR]; exact h75 t q1 q2) hq
                      · skip
                        refine wp_aload_n dd_X11_readsAll_122 rfl ?_
                        refine wp_getZ 12 rfl dd_X11_readsAll_123 gf_X11_126 rfl kk_67 (by decide) (zlt rfl) ?_
                        refine wp_aload_n dd_X11_readsAll_126 rfl ?_
                        refine wp_getZ 11 rfl dd_X11_readsAll_127 gf_X11_123 rfl kk_67 (by decide) (zlt rfl) ?_
                        refine wp_icmp_ne (tgt := 137) dd_X11_readsAll_130 (by decide) (fun c130_9 => ?_) (fun c130_9 => ?_)
                        · skip
                          refine wp_iconst dd_X11_readsAll_137 (zr_lit rfl) ?_
                          refine wp_zreturn (st := []) dd_X11_readsAll_138 rfl (by omega) ?_
                          have hR : zall X (mem 67 11) = (0, mm 67 12, S) := by
                            rcases hc with h | h
                            · first | exact h.2 | (exfalso; omega)
                            · first
                              | (exfalso; omega)
                              | (rw [h.2]; unfold zrst; rw [if_neg (by omega)]; first | rw [if_pos (by omega)] | rw [if_neg (by omega)])
                          exact k _ _ (by rw [hR]) ⟨by rw [hR], hp9⟩ h67 (fun t q1 q2 => by rw [hR]; exact h75 t q1 q2) hq
                        · skip
                          refine wp_iconst dd_X11_readsAll_133 (zr_lit rfl) ?_
                          refine wp_goto (tgt := 138) dd_X11_readsAll_134 (by decide) ?_
                          refine wp_zreturn (st := []) dd_X11_readsAll_138 rfl (by omega) ?_
                          have hR : zall X (mem 67 11) = (1, mm 67 12, S) := by
                            rcases hc with h | h
                            · first | exact h.2 | (exfalso; omega)
                            · first
                              | (exfalso; omega)
                              | (rw [h.2]; unfold zrst; rw [if_neg (by omega)]; first | rw [if_pos (by omega)] | rw [if_neg (by omega)])
                          exact k _ _ (by rw [hR]) ⟨by rw [hR], hp9⟩ h67 (fun t q1 q2 => by rw [hR]; exact h75 t q1 q2) hq
                    · skip
                      refine ih79  ?_ ?_
                      · first | omega | assumption | (intros; omega)
                      · omega
            refine lp57 (((79 : Int) : Int)).toNat.succ rt mt 79 (zS1 X a (if ng = 0 then 1 else -1) (fun _ => 0)) ?_ ?_ ?_ ?_ ?_ ?_ ?_ ?_
            · rw [ft]; exact zto_01 X a
            · intro s hs; rw [st9 s hs, zu_n (Or.inr hs), f1 67 (by decide)]
            · intro q q1 q2; rw [rt9 q q1 q2, zu_row q1]; exact f1 q q2
            · rw [pt]; omega
            · rw [ft, pt]; exact hrS
            · exact zS1_at (f := mc 75) (fun t q1 q2 => by rw [f2 t q1 (by omega)]; exact (Int.zero_emod _).symm) dt
            · intro _; rw [pt]; omega
            · omega
          refine wp_iconst dd_X11_readsAll_44 (zr_lit rfl) ?_
          refine wp_icmp_ne (tgt := 52) dd_X11_readsAll_45 (by decide) (fun c45_10 => ?_) (fun c45_10 => ?_)
          · skip
            refine wp_iconst dd_X11_readsAll_52 (zr_lit rfl) ?_
            refine ih53 0 ?_ ?_
            · first | omega | assumption | (intros; omega)
            · omega
          · skip
            refine wp_iconst dd_X11_readsAll_48 (zr_lit rfl) ?_
            refine wp_goto (tgt := 53) dd_X11_readsAll_49 (by decide) ?_
            refine ih53 1 ?_ ?_
            · first | omega | assumption | (intros; omega)
            · omega
        refine wp_bipush dd_X11_readsAll_26 (by decide) ?_
        refine wp_icmp_ne (tgt := 35) dd_X11_readsAll_28 (by decide) (fun c28_11 => ?_) (fun c28_11 => ?_)
        · skip
          refine wp_iconst dd_X11_readsAll_35 (zr_lit rfl) ?_
          refine wp_ls (zw_sub_of (a := [some (zR 67), none]) (And.intro rfl (trivial))) ?_
          refine ih36 0 ?_ ?_
          · first | omega | assumption | (intros; omega)
          · omega
        · skip
          refine wp_iconst dd_X11_readsAll_31 (zr_lit rfl) ?_
          refine wp_goto (tgt := 36) dd_X11_readsAll_32 (by decide) ?_
          refine wp_ls (zw_sub_of (a := [some (zR 67), none]) (And.intro rfl (trivial))) ?_
          refine ih36 1 ?_ ?_
          · first | omega | assumption | (intros; omega)
          · omega
      · skip
        refine wp_aload_n dd_X11_readsAll_8 rfl ?_
        refine wp_getR dd_X11_readsAll_9 gf_X11_49 rfl kk_67 (by decide) (zlt rfl) rr_67_10 ?_
        refine wp_iload_n dd_X11_readsAll_12 rfl ?_
        refine wp_iconst dd_X11_readsAll_13 (zr_lit rfl) ?_
        refine wp_iast dd_X11_readsAll_14 kk_75 (zlt rfl) (by omega) (by omega) ?_
        refine wp_iincC (ls2 := [some (zR 67), some (zI (i + 1))]) dd_X11_readsAll_15 rfl rfl (by decide) (by omega) rfl ?_
        refine wp_goto (tgt := 2) dd_X11_readsAll_18 (by decide) ?_
        refine ih2 (i + 1) (zu mc 75 i 0) ?_ ?_ ?_ ?_ ?_
        · first | omega | assumption | (intros; omega)
        · first | omega | assumption | (intros; omega)
        · intro q hq; rw [zu_row hq]; exact f1 q hq
        · intro t q1 q2
          by_cases hx : t = i
          · subst hx; rw [zu_s]
          · rw [zu_n (Or.inr hx)]; exact f2 t q1 (by omega)
        · omega
  refine lp2 ((25 - 0 : Int)).toNat.succ 0 mem ?_ ?_ ?_ ?_ ?_
  · first | omega | assumption | (intros; omega)
  · first | omega | assumption | (intros; omega)
  · intros; rfl
  · intros; omega
  · omega

set_option maxRecDepth 100000 in
set_option maxHeartbeats 4000000 in
theorem sp_X11_poly {l : Launch} {L : Nat} {mem : zMem} {Q : zQ}   (hp : zPr (mem 67 1)) (hn : 0 ≤ mem 67 5 ∧ mem 67 5 ≤ 6) (ht : 0 ≤ mem 67 11 ∧ mem 67 11 ≤ 72) (k : ∀ (r : Int) (mem2 : zMem), ((mem 67 5 = 6 ∧ r = -6 ∧ mem2 = zno mem (-6)) ∨ (mem 67 5 < 6 ∧ ∃ m1 : zMem, (∀ t : Int, 0 ≤ t → t < 25 → m1 75 t = (zall (znx mem) (mem 67 11)).2.2 t % mem 67 1) ∧ m1 67 11 = 0 ∧ (∀ s : Int, s ≠ 11 → s ≠ 12 → m1 67 s = mem 67 s) ∧ (∀ q : Nat, q ≠ 67 → q ≠ 75 → m1 q = mem q) ∧ (((zall (znx mem) (mem 67 11)).1 = 0 ∧ r = -1000 - (zall (znx mem) (mem 67 11)).2.1 ∧ mem2 = m1) ∨ ((zall (znx mem) (mem 67 11)).1 ≠ 0 ∧ r = mem 67 5 ∧ zcome m1 mem2)))) → Q (some (zI r)) (zS L) mem2) : zw_Ok l mm_X11_poly [zR 67] (zS L) mem Q := by
  refine zw_enter (by decide) (Nat.le_of_ble_eq_true rfl) rfl ?_
  show zw_Wp l mm_X11_poly (zS L) 0 [some (zR 67), none] [] mem 0 0 Q
  have hpr := hp.rg
  refine wp_aload_n dd_X11_poly_0 rfl ?_
  refine wp_getZ 5 rfl dd_X11_poly_1 gf_X11_95 rfl kk_67 (by decide) (zlt rfl) ?_
  refine wp_bipush dd_X11_poly_4 (by decide) ?_
  refine wp_icmp_ne (tgt := 16) dd_X11_poly_6 (by decide) (fun c6_1 => ?_) (fun c6_1 => ?_)
  · skip
    refine wp_aload_n dd_X11_poly_16 rfl ?_
    refine wp_iconst dd_X11_poly_17 (zr_lit rfl) ?_
    refine wp_putzI 12 rfl dd_X11_poly_18 pf_X11_126 rfl kk_67 (by decide) (zlt rfl) ?_
    refine wp_aload_n dd_X11_poly_21 rfl ?_
    refine wp_callV (M' := mm_X11_readsAll) (As := []) (rest := []) dd_X11_poly_22 lk_X11_144 mV_X11_readsAll kk_67 (zlt rfl) ⟨_, _, rfl⟩ rfl (by decide) (by decide) (Nat.le_of_ble_eq_true rfl) rfl (sp_X11_readsAll (znx mem)  (by rw [zu_n (Or.inr (by decide))]; exact hp) (znx_k (zu_n (Or.inr (by decide))) (zu_row (by decide)) rfl) zu_s (by rw [zu_n (Or.inr (by decide))]; exact ht) (fun ra ma fa pa sa da ra9 => ?_))
    show zw_Wp l mm_X11_poly (zS L) 25 [some (zR 67), none] [zI ra] ma 0 0 Q
    rw [zu_n (Or.inr (by decide))] at fa pa da
    rw [zu_n (Or.inr (by decide))] at da
    have a5 : ma 67 5 = mem 67 5 := by rw [sa 5 (by decide), zu_n (Or.inr (by decide))]
    refine wp_istore_n (ls2 := [some (zR 67), some (zI ra)]) dd_X11_poly_25 rfl (by decide) rfl ?_
    refine wp_aload_n dd_X11_poly_26 rfl ?_
    refine wp_iconst dd_X11_poly_27 (zr_lit rfl) ?_
    refine wp_putzI 11 rfl dd_X11_poly_28 pf_X11_123 rfl kk_67 (by decide) (zlt rfl) ?_
    have W : (∀ t : Int, 0 ≤ t → t < 25 → (zu ma 67 11 0) 75 t = (zall (znx mem) (mem 67 11)).2.2 t % mem 67 1) ∧ (zu ma 67 11 0) 67 11 = 0 ∧ (∀ s : Int, s ≠ 11 → s ≠ 12 → (zu ma 67 11 0) 67 s = mem 67 s) ∧ (∀ q : Nat, q ≠ 67 → q ≠ 75 → (zu ma 67 11 0) q = mem q) := ⟨fun t q1 q2 => by rw [zu_row (by decide)]; exact da t q1 q2, zu_s, fun s q1 q2 => by rw [zu_n (Or.inr q1), sa s q2, zu_n (Or.inr q2)], fun q q1 q2 => by rw [zu_row q1, ra9 q q1 q2, zu_row q1]⟩
    have z5 : (zu ma 67 11 0) 67 5 = mem 67 5 := by rw [zu_n (Or.inr (by decide))]; exact a5
    refine wp_iload_n dd_X11_poly_31 rfl ?_
    refine wp_if_eq (tgt := 42) dd_X11_poly_32 (by decide) (fun c32_2 => ?_) (fun c32_2 => ?_)
    · skip
      refine wp_sipush dd_X11_poly_42 (by decide) ?_
      refine wp_aload_n dd_X11_poly_45 rfl ?_
      refine wp_getV 12 (v := ma 67 12) rfl (by rw [zu_n (Or.inr (by decide))]) dd_X11_poly_46 gf_X11_126 rfl kk_67 (by decide) (zlt rfl) ?_
      refine wp_isubC dd_X11_poly_49 (by omega) ?_
      refine wp_ireturn (st := []) dd_X11_poly_50 rfl ?_
      exact k _ _ (Or.inr ⟨by omega, _, W.1, W.2.1, W.2.2.1, W.2.2.2, Or.inl ⟨by rw [← fa]; omega, by rw [← pa.1], rfl⟩⟩)
    · skip
      refine wp_aload_n dd_X11_poly_35 rfl ?_
      refine wp_callV (M' := mm_X11_comes) (As := []) (rest := []) dd_X11_poly_36 lk_X11_147 mV_X11_comes kk_67 (zlt rfl) ⟨_, _, rfl⟩ rfl (by decide) (by decide) (Nat.le_of_ble_eq_true rfl) rfl (sp_X11_comes   (by rw [z5]; omega) (fun mz fz => ?_))
      show zw_Wp l mm_X11_poly (zS L) 39 [some (zR 67), some (zI ra)] [zI ((zu ma 67 11 0) 67 5)] mz 0 0 Q
      refine wp_goto (tgt := 50) dd_X11_poly_39 (by decide) ?_
      refine wp_ireturn (st := []) dd_X11_poly_50 rfl ?_
      exact k _ _ (Or.inr ⟨by omega, _, W.1, W.2.1, W.2.2.1, W.2.2.2, Or.inr ⟨by rw [← fa]; omega, z5, fz⟩⟩)
  · skip
    refine wp_aload_n dd_X11_poly_9 rfl ?_
    refine wp_bipush dd_X11_poly_10 (by decide) ?_
    refine wp_callV (M' := mm_X11_no) (As := [zI (-6)]) (rest := []) dd_X11_poly_12 lk_X11_120 mV_X11_no kk_67 (zlt rfl) ⟨_, _, rfl⟩ rfl (by decide) (by decide) (Nat.le_of_ble_eq_true rfl) rfl (sp_X11_no  (-6) (by first | assumption | omega) ?_)
    show zw_Wp l mm_X11_poly (zS L) 15 [some (zR 67), none] [zI (-6)] (zu mem 68 (-(-6)) (zwr (mem 68 (-(-6)) + 1))) 0 0 Q
    refine wp_ireturn (st := []) dd_X11_poly_15 rfl ?_
    exact k _ _ (Or.inl ⟨by omega, rfl, rfl⟩)

