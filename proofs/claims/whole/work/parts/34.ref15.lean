/-! ===== the reference: what is asked of results ===== -/
theorem zyB_c (mem : zMem) (a b le tb : Int) : (zyB mem a b le tb = 0 ∧ ((0 ≤ a ∧ a < mem 67 5) ∧ (0 ≤ b ∧ b < mem 67 5) ∧ (le = 0 ∨ le = 1) ∧ (tb = 0 ∨ tb = 1)) ∧ ¬ zdeg (zco mem a) 0 25 < 0 ∧ ¬ zdeg (zco mem b) 0 25 < 0) ∨ (-3 ≤ zyB mem a b le tb ∧ zyB mem a b le tb ≤ -1) := by
  unfold zyB
  split
  · exact Or.inr (by omega)
  · split
    · exact Or.inr (by omega)
    · split
      · exact Or.inr (by omega)
      · exact Or.inl (by omega)
theorem zyB_0 {mem : zMem} {a b le tb : Int} (h : zyB mem a b le tb = 0) : ((0 ≤ a ∧ a < mem 67 5) ∧ (0 ≤ b ∧ b < mem 67 5) ∧ (le = 0 ∨ le = 1) ∧ (tb = 0 ∨ tb = 1)) ∧ ¬ zdeg (zco mem a) 0 25 < 0 ∧ ¬ zdeg (zco mem b) 0 25 < 0 := by
  rcases zyB_c mem a b le tb with q | q
  · exact q.2
  · omega
theorem zre_rg {mem : zMem} {a b le tb d : Int} (hp : zPr (mem 67 1)) : 0 ≤ zre mem a b le tb d ∧ zre mem a b le tb d < mem 67 1 := by
  have := hp.rg
  exact zmt_rg (by omega) _ _ _
def zzs (f : Int → Int) : Nat → Int
  | 0 => 0
  | n + 1 => zbor (zzs f n) (if f n = 0 then 1 * 2 ^ ((n : Int)).toNat else 0)
theorem zzs_rg (f : Int → Int) : ∀ n, zw_r32 (zzs f n)
  | 0 => z32_0
  | n + 1 => zbor_rg _ _
/-- the greatest power with a coefficient, or -9 -/
def zrdg (f : Int → Int) : Nat → Int
  | 0 => -9
  | n + 1 => if f n ≠ 0 then n else zrdg f n
def zyN (mem : zMem) (l a b le tb : Int) : Int := if ¬ (0 ≤ l ∧ l ≤ 2) then -1 else zyB mem a b le tb
theorem zyN_c (mem : zMem) (l a b le tb : Int) : (zyN mem l a b le tb = 0 ∧ (0 ≤ l ∧ l ≤ 2) ∧ zyB mem a b le tb = 0) ∨ (-3 ≤ zyN mem l a b le tb ∧ zyN mem l a b le tb ≤ -1) := by
  have := zyB_c mem a b le tb
  unfold zyN
  split
  · exact Or.inr (by omega)
  · omega
/-- the first place where two rows differ, or -9 -/
def zjd (f g : Int → Int) (r : Int) : Prop := (0 ≤ r ∧ r < 41 ∧ f r ≠ g r ∧ ∀ e : Int, 0 ≤ e → e < r → f e = g e) ∨ (r = -9 ∧ ∀ e : Int, 0 ≤ e → e < 41 → f e = g e)
def zli (mem : zMem) (l d : Int) : Int := if d < mem 86 l then mem 87 (40 * l + d) % mem 67 1 else 0

theorem zhr_cg {f g : Int → Int} {v p n : Int} (h : ∀ x : Int, 0 ≤ x → x < n → f x = g x) : ∀ k : Nat, (k : Int) ≤ n → zhr f v p n k = zhr g v p n k
  | 0, _ => rfl
  | k + 1, q => by
    rw [zhr, zhr, zhr_cg h k (by omega), h _ (by omega) (by omega)]
set_option maxRecDepth 100000 in
set_option maxHeartbeats 4000000 in
theorem sp_X11_rows {l : Launch} {L : Nat} {mem : zMem} {Q : zQ}  (a : Int) (b : Int) (le : Int) (tb : Int) (hp : zPr (mem 67 1)) (hn : 0 ≤ mem 67 5 ∧ mem 67 5 ≤ 6) (hTa : ∀ q : Int, 0 ≤ q → q < mem 67 5 → zT mem q) (k : ∀ (r : Int) (mem2 : zMem), ((zyB mem a b le tb ≠ 0 ∧ r = zyB mem a b le tb ∧ mem2 = zno mem (zyB mem a b le tb)) ∨ (zyB mem a b le tb = 0 ∧ r = zsm mem a b le tb ∧ zKp mem mem2)) → Q (some (zI r)) (zS L) mem2) : zw_Ok l mm_X11_rows [zR 67, zI a, zI b, zI le, zI tb] (zS L) mem Q := by
  refine zw_okA (fun hA => ?_)
  have rg_a : -2147483648 ≤ a ∧ a < 2147483648 := hA.2.1
  have rg_b : -2147483648 ≤ b ∧ b < 2147483648 := hA.2.2.1
  have rg_le : -2147483648 ≤ le ∧ le < 2147483648 := hA.2.2.2.1
  have rg_tb : -2147483648 ≤ tb ∧ tb < 2147483648 := hA.2.2.2.2.1
  refine zw_enter (by decide) (Nat.le_of_ble_eq_true rfl) rfl ?_
  show zw_Wp l mm_X11_rows (zS L) 0 [some (zR 67), some (zI a), some (zI b), some (zI le), some (zI tb), none] [] mem 0 0 Q
  have hpr := hp.rg
  refine wp_aload_n dd_X11_rows_0 rfl ?_
  refine wp_iload_n dd_X11_rows_1 rfl ?_
  refine wp_iload_n dd_X11_rows_2 rfl ?_
  refine wp_iload_n dd_X11_rows_3 rfl ?_
  refine wp_iload dd_X11_rows_4 rfl ?_
  refine wp_callV (M' := mm_X11_notTable) (As := [zI a, zI b, zI le, zI tb]) (rest := []) dd_X11_rows_6 lk_X11_176 mV_X11_notTable kk_67 (zlt rfl) ⟨_, _, rfl⟩ rfl (by decide) (by decide) (Nat.le_of_ble_eq_true rfl) rfl (sp_X11_notTable  a b le tb (by first | assumption | omega) (by first | assumption | omega) (by first | assumption | omega) ?_)
  show zw_Wp l mm_X11_rows (zS L) 9 [some (zR 67), some (zI a), some (zI b), some (zI le), some (zI tb), none] [zI (if ¬ ((0 ≤ a ∧ a < mem 67 5) ∧ (0 ≤ b ∧ b < mem 67 5) ∧ 0 ≤ le ∧ le ≤ 1) then -1 else if ¬ (0 ≤ tb ∧ tb ≤ 1) then -2 else if zdeg (zco mem a) 0 25 < 0 ∨ zdeg (zco mem b) 0 25 < 0 then -3 else 0)] mem 0 0 Q
  change zw_Wp l _ _ 9 _ (zI (zyB mem a b le tb) :: _) _ _ _ _
  have hyc := zyB_c mem a b le tb
  refine wp_istore (ls2 := [some (zR 67), some (zI a), some (zI b), some (zI le), some (zI tb), some (zI (zyB mem a b le tb))]) dd_X11_rows_9 rfl (by decide) rfl ?_
  refine wp_iload dd_X11_rows_11 rfl ?_
  refine wp_if_eq (tgt := 23) dd_X11_rows_13 (by decide) (fun c13_1 => ?_) (fun c13_1 => ?_)
  · skip
    have hz : zyB mem a b le tb = 0 := by omega
    obtain ⟨⟨hia, hib, hl, htb⟩, hna, hnb⟩ := zyB_0 hz
    have hTx := hTa a hia.1 hia.2
    have hTy := hTa b hib.1 hib.2
    refine wp_aload_n dd_X11_rows_23 rfl ?_
    refine wp_iload_n dd_X11_rows_24 rfl ?_
    refine wp_iload_n dd_X11_rows_25 rfl ?_
    refine wp_iload_n dd_X11_rows_26 rfl ?_
    refine wp_iload dd_X11_rows_27 rfl ?_
    refine wp_callV (M' := mm_X11_fills) (As := [zI a, zI b, zI le, zI tb]) (rest := []) dd_X11_rows_29 lk_X11_217 mV_X11_fills kk_67 (zlt rfl) ⟨_, _, rfl⟩ rfl (by decide) (by decide) (Nat.le_of_ble_eq_true rfl) rfl (sp_X11_fills  a b le tb hp hTx hTy hl htb hna hnb (fun me s1 f1 K1 => ?_))
    show zw_Wp l mm_X11_rows (zS L) 32 [some (zR 67), some (zI a), some (zI b), some (zI le), some (zI tb), some (zI (zyB mem a b le tb))] [] me 0 0 Q
    have hm1 : me 67 1 = mem 67 1 := K1.kp.1
    refine wp_aload_n dd_X11_rows_32 rfl ?_
    refine wp_getZ 18 rfl dd_X11_rows_33 gf_X11_186 rfl kk_67 (by decide) (zlt rfl) ?_
    refine wp_ireturn (st := []) dd_X11_rows_36 rfl ?_
    exact k _ _ (Or.inr ⟨hz, s1, K1⟩)
  · skip
    refine wp_aload_n dd_X11_rows_16 rfl ?_
    refine wp_iload dd_X11_rows_17 rfl ?_
    refine wp_callV (M' := mm_X11_no) (As := [zI (zyB mem a b le tb)]) (rest := []) dd_X11_rows_19 lk_X11_120 mV_X11_no kk_67 (zlt rfl) ⟨_, _, rfl⟩ rfl (by decide) (by decide) (Nat.le_of_ble_eq_true rfl) rfl (sp_X11_no  (zyB mem a b le tb) (by first | assumption | omega) ?_)
    show zw_Wp l mm_X11_rows (zS L) 22 [some (zR 67), some (zI a), some (zI b), some (zI le), some (zI tb), some (zI (zyB mem a b le tb))] [zI (zyB mem a b le tb)] (zu mem 68 (-(zyB mem a b le tb)) (zwr (mem 68 (-(zyB mem a b le tb)) + 1))) 0 0 Q
    refine wp_ireturn (st := []) dd_X11_rows_22 rfl ?_
    exact k _ _ (Or.inl ⟨by assumption, rfl, rfl⟩)

set_option maxRecDepth 100000 in
set_option maxHeartbeats 4000000 in
theorem sp_X11_entry {l : Launch} {L : Nat} {mem : zMem} {Q : zQ}  (a : Int) (b : Int) (le : Int) (tb : Int) (i : Int) (j : Int) (k0 : Int) (hp : zPr (mem 67 1)) (hn : 0 ≤ mem 67 5 ∧ mem 67 5 ≤ 6) (hTa : ∀ q : Int, 0 ≤ q → q < mem 67 5 → zT mem q) (k : ∀ (r : Int) (mem2 : zMem), ((zyB mem a b le tb ≠ 0 ∧ r = zyB mem a b le tb ∧ mem2 = zno mem (zyB mem a b le tb)) ∨ (zyB mem a b le tb = 0 ∧ (((i < 0 ∨ j < 0 ∨ k0 < 0) ∧ r = -4 ∧ mem2 = zno mem (-4)) ∨ (0 ≤ i ∧ 0 ≤ j ∧ 0 ≤ k0 ∧ ∃ m1, zKp mem m1 ∧ (((zsm mem a b le tb ≤ i ∨ zsm mem a b le tb ≤ j ∨ 9 ≤ k0) ∧ r = -6 ∧ mem2 = zno m1 (-6)) ∨ (i < zsm mem a b le tb ∧ j < zsm mem a b le tb ∧ k0 < 9 ∧ r = zcm mem a b le tb i j k0 ∧ mem2 = m1)))))) → Q (some (zI r)) (zS L) mem2) : zw_Ok l mm_X11_entry [zR 67, zI a, zI b, zI le, zI tb, zI i, zI j, zI k0] (zS L) mem Q := by
  refine zw_okA (fun hA => ?_)
  have rg_a : -2147483648 ≤ a ∧ a < 2147483648 := hA.2.1
  have rg_b : -2147483648 ≤ b ∧ b < 2147483648 := hA.2.2.1
  have rg_le : -2147483648 ≤ le ∧ le < 2147483648 := hA.2.2.2.1
  have rg_tb : -2147483648 ≤ tb ∧ tb < 2147483648 := hA.2.2.2.2.1
  have rg_i : -2147483648 ≤ i ∧ i < 2147483648 := hA.2.2.2.2.2.1
  have rg_j : -2147483648 ≤ j ∧ j < 2147483648 := hA.2.2.2.2.2.2.1
  have rg_k0 : -2147483648 ≤ k0 ∧ k0 < 2147483648 := hA.2.2.2.2.2.2.2.1
  refine zw_enter (by decide) (Nat.le_of_ble_eq_true rfl) rfl ?_
  show zw_Wp l mm_X11_entry (zS L) 0 [some (zR 67), some (zI a), some (zI b), some (zI le), some (zI tb), some (zI i), some (zI j), some (zI k0), none] [] mem 0 0 Q
  have hpr := hp.rg
  refine wp_aload_n dd_X11_entry_0 rfl ?_
  refine wp_iload_n dd_X11_entry_1 rfl ?_
  refine wp_iload_n dd_X11_entry_2 rfl ?_
  refine wp_iload_n dd_X11_entry_3 rfl ?_
  refine wp_iload dd_X11_entry_4 rfl ?_
  refine wp_callV (M' := mm_X11_notTable) (As := [zI a, zI b, zI le, zI tb]) (rest := []) dd_X11_entry_6 lk_X11_176 mV_X11_notTable kk_67 (zlt rfl) ⟨_, _, rfl⟩ rfl (by decide) (by decide) (Nat.le_of_ble_eq_true rfl) rfl (sp_X11_notTable  a b le tb (by first | assumption | omega) (by first | assumption | omega) (by first | assumption | omega) ?_)
  show zw_Wp l mm_X11_entry (zS L) 9 [some (zR 67), some (zI a), some (zI b), some (zI le), some (zI tb), some (zI i), some (zI j), some (zI k0), none] [zI (if ¬ ((0 ≤ a ∧ a < mem 67 5) ∧ (0 ≤ b ∧ b < mem 67 5) ∧ 0 ≤ le ∧ le ≤ 1) then -1 else if ¬ (0 ≤ tb ∧ tb ≤ 1) then -2 else if zdeg (zco mem a) 0 25 < 0 ∨ zdeg (zco mem b) 0 25 < 0 then -3 else 0)] mem 0 0 Q
  change zw_Wp l _ _ 9 _ (zI (zyB mem a b le tb) :: _) _ _ _ _
  have hyc := zyB_c mem a b le tb
  refine wp_istore (ls2 := [some (zR 67), some (zI a), some (zI b), some (zI le), some (zI tb), some (zI i), some (zI j), some (zI k0), some (zI (zyB mem a b le tb))]) dd_X11_entry_9 rfl (by decide) rfl ?_
  refine wp_iload dd_X11_entry_11 rfl ?_
  refine wp_if_eq (tgt := 23) dd_X11_entry_13 (by decide) (fun c13_1 => ?_) (fun c13_1 => ?_)
  · skip
    refine wp_iload dd_X11_entry_23 rfl ?_
    refine wp_if_lt (tgt := 38) dd_X11_entry_25 (by decide) (fun c25_2 => ?_) (fun c25_2 => ?_)
    · skip
      refine wp_aload_n dd_X11_entry_38 rfl ?_
      refine wp_bipush dd_X11_entry_39 (by decide) ?_
      refine wp_callV (M' := mm_X11_no) (As := [zI (-4)]) (rest := []) dd_X11_entry_41 lk_X11_120 mV_X11_no kk_67 (zlt rfl) ⟨_, _, rfl⟩ rfl (by decide) (by decide) (Nat.le_of_ble_eq_true rfl) rfl (sp_X11_no  (-4) (by first | assumption | omega) ?_)
      show zw_Wp l mm_X11_entry (zS L) 44 [some (zR 67), some (zI a), some (zI b), some (zI le), some (zI tb), some (zI i), some (zI j), some (zI k0), some (zI (zyB mem a b le tb))] [zI (-4)] (zu mem 68 (-(-4)) (zwr (mem 68 (-(-4)) + 1))) 0 0 Q
      refine wp_ireturn (st := []) dd_X11_entry_44 rfl ?_
      exact k _ _ (Or.inr ⟨by omega, Or.inl ⟨by omega, rfl, rfl⟩⟩)
    · skip
      refine wp_iload dd_X11_entry_28 rfl ?_
      refine wp_if_lt (tgt := 38) dd_X11_entry_30 (by decide) (fun c30_3 => ?_) (fun c30_3 => ?_)
      · skip
        refine wp_aload_n dd_X11_entry_38 rfl ?_
        refine wp_bipush dd_X11_entry_39 (by decide) ?_
        refine wp_callV (M' := mm_X11_no) (As := [zI (-4)]) (rest := []) dd_X11_entry_41 lk_X11_120 mV_X11_no kk_67 (zlt rfl) ⟨_, _, rfl⟩ rfl (by decide) (by decide) (Nat.le_of_ble_eq_true rfl) rfl (sp_X11_no  (-4) (by first | assumption | omega) ?_)
        show zw_Wp l mm_X11_entry (zS L) 44 [some (zR 67), some (zI a), some (zI b), some (zI le), some (zI tb), some (zI i), some (zI j), some (zI k0), some (zI (zyB mem a b le tb))] [zI (-4)] (zu mem 68 (-(-4)) (zwr (mem 68 (-(-4)) + 1))) 0 0 Q
        refine wp_ireturn (st := []) dd_X11_entry_44 rfl ?_
        exact k _ _ (Or.inr ⟨by omega, Or.inl ⟨by omega, rfl, rfl⟩⟩)
      · skip
        refine wp_iload dd_X11_entry_33 rfl ?_
        refine wp_if_ge (tgt := 45) dd_X11_entry_35 (by decide) (fun c35_4 => ?_) (fun c35_4 => ?_)
        · skip
          have hz : zyB mem a b le tb = 0 := by omega
          obtain ⟨⟨hia, hib, hl, htb⟩, hna, hnb⟩ := zyB_0 hz
          have hTx := hTa a hia.1 hia.2
          have hTy := hTa b hib.1 hib.2
          have d1 := zdeg_4 (c := zco mem a) hl
          have d2 := zdeg_4 (c := zco mem b) hl
          have dn1 := zdg_nn (c := zco mem a) hl hna
          have dn2 := zdg_nn (c := zco mem b) hl hnb
          have hsz : 0 ≤ zsm mem a b le tb ∧ zsm mem a b le tb ≤ 8 := by unfold zsm zsz; split <;> omega
          refine wp_aload_n dd_X11_entry_45 rfl ?_
          refine wp_iload_n dd_X11_entry_46 rfl ?_
          refine wp_iload_n dd_X11_entry_47 rfl ?_
          refine wp_iload_n dd_X11_entry_48 rfl ?_
          refine wp_iload dd_X11_entry_49 rfl ?_
          refine wp_callV (M' := mm_X11_fills) (As := [zI a, zI b, zI le, zI tb]) (rest := []) dd_X11_entry_51 lk_X11_217 mV_X11_fills kk_67 (zlt rfl) ⟨_, _, rfl⟩ rfl (by decide) (by decide) (Nat.le_of_ble_eq_true rfl) rfl (sp_X11_fills  a b le tb hp hTx hTy hl htb hna hnb (fun me s1 f1 K1 => ?_))
          show zw_Wp l mm_X11_entry (zS L) 54 [some (zR 67), some (zI a), some (zI b), some (zI le), some (zI tb), some (zI i), some (zI j), some (zI k0), some (zI (zyB mem a b le tb))] [] me 0 0 Q
          have hm1 : me 67 1 = mem 67 1 := K1.kp.1
          refine wp_iload dd_X11_entry_54 rfl ?_
          refine wp_aload_n dd_X11_entry_56 rfl ?_
          refine wp_getZ 18 rfl dd_X11_entry_57 gf_X11_186 rfl kk_67 (by decide) (zlt rfl) ?_
          refine wp_icmp_ge (tgt := 79) dd_X11_entry_60 (by decide) (fun c60_5 => ?_) (fun c60_5 => ?_)
          · skip
            refine wp_aload_n dd_X11_entry_79 rfl ?_
            refine wp_bipush dd_X11_entry_80 (by decide) ?_
            refine wp_callV (M' := mm_X11_no) (As := [zI (-6)]) (rest := []) dd_X11_entry_82 lk_X11_120 mV_X11_no kk_67 (zlt rfl) ⟨_, _, rfl⟩ rfl (by decide) (by decide) (Nat.le_of_ble_eq_true rfl) rfl (sp_X11_no  (-6) (by first | assumption | omega) ?_)
            show zw_Wp l mm_X11_entry (zS L) 85 [some (zR 67), some (zI a), some (zI b), some (zI le), some (zI tb), some (zI i), some (zI j), some (zI k0), some (zI (zyB mem a b le tb))] [zI (-6)] (zu me 68 (-(-6)) (zwr (me 68 (-(-6)) + 1))) 0 0 Q
            refine wp_goto (tgt := 107) dd_X11_entry_85 (by decide) ?_
            refine wp_ireturn (st := []) dd_X11_entry_107 rfl ?_
            exact k _ _ (Or.inr ⟨hz, Or.inr ⟨by omega, by omega, by omega, me, K1, Or.inl ⟨by omega, rfl, rfl⟩⟩⟩)
          · skip
            refine wp_iload dd_X11_entry_63 rfl ?_
            refine wp_aload_n dd_X11_entry_65 rfl ?_
            refine wp_getZ 18 rfl dd_X11_entry_66 gf_X11_186 rfl kk_67 (by decide) (zlt rfl) ?_
            refine wp_icmp_ge (tgt := 79) dd_X11_entry_69 (by decide) (fun c69_6 => ?_) (fun c69_6 => ?_)
            · skip
              refine wp_aload_n dd_X11_entry_79 rfl ?_
              refine wp_bipush dd_X11_entry_80 (by decide) ?_
              refine wp_callV (M' := mm_X11_no) (As := [zI (-6)]) (rest := []) dd_X11_entry_82 lk_X11_120 mV_X11_no kk_67 (zlt rfl) ⟨_, _, rfl⟩ rfl (by decide) (by decide) (Nat.le_of_ble_eq_true rfl) rfl (sp_X11_no  (-6) (by first | assumption | omega) ?_)
              show zw_Wp l mm_X11_entry (zS L) 85 [some (zR 67), some (zI a), some (zI b), some (zI le), some (zI tb), some (zI i), some (zI j), some (zI k0), some (zI (zyB mem a b le tb))] [zI (-6)] (zu me 68 (-(-6)) (zwr (me 68 (-(-6)) + 1))) 0 0 Q
              refine wp_goto (tgt := 107) dd_X11_entry_85 (by decide) ?_
              refine wp_ireturn (st := []) dd_X11_entry_107 rfl ?_
              exact k _ _ (Or.inr ⟨hz, Or.inr ⟨by omega, by omega, by omega, me, K1, Or.inl ⟨by omega, rfl, rfl⟩⟩⟩)
            · skip
              refine wp_iload dd_X11_entry_72 rfl ?_
              refine wp_bipush dd_X11_entry_74 (by decide) ?_
              refine wp_icmp_lt (tgt := 88) dd_X11_entry_76 (by decide) (fun c76_7 => ?_) (fun c76_7 => ?_)
              · skip
                refine wp_aload_n dd_X11_entry_88 rfl ?_
                refine wp_getR dd_X11_entry_89 gf_X11_58 rfl kk_67 (by decide) (zlt rfl) rr_67_17 ?_
                refine wp_bipush dd_X11_entry_92 (by decide) ?_
                refine wp_bipush dd_X11_entry_94 (by decide) ?_
                refine wp_iload dd_X11_entry_96 rfl ?_
                refine wp_imulC dd_X11_entry_98 (by omega) ?_
                refine wp_iload dd_X11_entry_99 rfl ?_
                refine wp_iaddC dd_X11_entry_101 (by omega) ?_
                refine wp_imulC dd_X11_entry_102 (by omega) ?_
                refine wp_iload dd_X11_entry_103 rfl ?_
                refine wp_iaddC dd_X11_entry_105 (by omega) ?_
                refine wp_iald dd_X11_entry_106 kk_78 (zlt rfl) (by omega) (by omega) ?_
                refine wp_ireturn (st := []) dd_X11_entry_107 rfl ?_
                exact k _ _ (Or.inr ⟨hz, Or.inr ⟨by omega, by omega, by omega, me, K1, Or.inr ⟨by omega, by omega, by omega, f1 i j k0 (by omega) (by omega) (by omega), rfl⟩⟩⟩)
              · skip
                refine wp_aload_n dd_X11_entry_79 rfl ?_
                refine wp_bipush dd_X11_entry_80 (by decide) ?_
                refine wp_callV (M' := mm_X11_no) (As := [zI (-6)]) (rest := []) dd_X11_entry_82 lk_X11_120 mV_X11_no kk_67 (zlt rfl) ⟨_, _, rfl⟩ rfl (by decide) (by decide) (Nat.le_of_ble_eq_true rfl) rfl (sp_X11_no  (-6) (by first | assumption | omega) ?_)
                show zw_Wp l mm_X11_entry (zS L) 85 [some (zR 67), some (zI a), some (zI b), some (zI le), some (zI tb), some (zI i), some (zI j), some (zI k0), some (zI (zyB mem a b le tb))] [zI (-6)] (zu me 68 (-(-6)) (zwr (me 68 (-(-6)) + 1))) 0 0 Q
                refine wp_goto (tgt := 107) dd_X11_entry_85 (by decide) ?_
                refine wp_ireturn (st := []) dd_X11_entry_107 rfl ?_
                exact k _ _ (Or.inr ⟨hz, Or.inr ⟨by omega, by omega, by omega, me, K1, Or.inl ⟨by omega, rfl, rfl⟩⟩⟩)
        · skip
          refine wp_aload_n dd_X11_entry_38 rfl ?_
          refine wp_bipush dd_X11_entry_39 (by decide) ?_
          refine wp_callV (M' := mm_X11_no) (As := [zI (-4)]) (rest := []) dd_X11_entry_41 lk_X11_120 mV_X11_no kk_67 (zlt rfl) ⟨_, _, rfl⟩ rfl (by decide) (by decide) (Nat.le_of_ble_eq_true rfl) rfl (sp_X11_no  (-4) (by first | assumption | omega) ?_)
          show zw_Wp l mm_X11_entry (zS L) 44 [some (zR 67), some (zI a), some (zI b), some (zI le), some (zI tb), some (zI i), some (zI j), some (zI k0), some (zI (zyB mem a b le tb))] [zI (-4)] (zu mem 68 (-(-4)) (zwr (mem 68 (-(-4)) + 1))) 0 0 Q
          refine wp_ireturn (st := []) dd_X11_entry_44 rfl ?_
          exact k _ _ (Or.inr ⟨by omega, Or.inl ⟨by omega, rfl, rfl⟩⟩)
  · skip
    refine wp_aload_n dd_X11_entry_16 rfl ?_
    refine wp_iload dd_X11_entry_17 rfl ?_
    refine wp_callV (M' := mm_X11_no) (As := [zI (zyB mem a b le tb)]) (rest := []) dd_X11_entry_19 lk_X11_120 mV_X11_no kk_67 (zlt rfl) ⟨_, _, rfl⟩ rfl (by decide) (by decide) (Nat.le_of_ble_eq_true rfl) rfl (sp_X11_no  (zyB mem a b le tb) (by first | assumption | omega) ?_)
    show zw_Wp l mm_X11_entry (zS L) 22 [some (zR 67), some (zI a), some (zI b), some (zI le), some (zI tb), some (zI i), some (zI j), some (zI k0), some (zI (zyB mem a b le tb))] [zI (zyB mem a b le tb)] (zu mem 68 (-(zyB mem a b le tb)) (zwr (mem 68 (-(zyB mem a b le tb)) + 1))) 0 0 Q
    refine wp_ireturn (st := []) dd_X11_entry_22 rfl ?_
    exact k _ _ (Or.inl ⟨by assumption, rfl, rfl⟩)

set_option maxRecDepth 100000 in
set_option maxHeartbeats 4000000 in
theorem sp_X11_result {l : Launch} {L : Nat} {mem : zMem} {Q : zQ}  (a : Int) (b : Int) (le : Int) (tb : Int) (d : Int) (hp : zPr (mem 67 1)) (hn : 0 ≤ mem 67 5 ∧ mem 67 5 ≤ 6) (hTa : ∀ q : Int, 0 ≤ q → q < mem 67 5 → zT mem q) (k : ∀ (r : Int) (mem2 : zMem), ((zyB mem a b le tb ≠ 0 ∧ r = zyB mem a b le tb ∧ mem2 = zno mem (zyB mem a b le tb)) ∨ (zyB mem a b le tb = 0 ∧ ((d < 0 ∧ r = -4 ∧ mem2 = zno mem (-4)) ∨ (41 ≤ d ∧ r = -6 ∧ mem2 = zno mem (-6)) ∨ (0 ≤ d ∧ d < 41 ∧ r = zre mem a b le tb d ∧ zKp mem mem2)))) → Q (some (zI r)) (zS L) mem2) : zw_Ok l mm_X11_result [zR 67, zI a, zI b, zI le, zI tb, zI d] (zS L) mem Q := by
  refine zw_okA (fun hA => ?_)
  have rg_a : -2147483648 ≤ a ∧ a < 2147483648 := hA.2.1
  have rg_b : -2147483648 ≤ b ∧ b < 2147483648 := hA.2.2.1
  have rg_le : -2147483648 ≤ le ∧ le < 2147483648 := hA.2.2.2.1
  have rg_tb : -2147483648 ≤ tb ∧ tb < 2147483648 := hA.2.2.2.2.1
  have rg_d : -2147483648 ≤ d ∧ d < 2147483648 := hA.2.2.2.2.2.1
  refine zw_enter (by decide) (Nat.le_of_ble_eq_true rfl) rfl ?_
  show zw_Wp l mm_X11_result (zS L) 0 [some (zR 67), some (zI a), some (zI b), some (zI le), some (zI tb), some (zI d), none] [] mem 0 0 Q
  have hpr := hp.rg
  refine wp_aload_n dd_X11_result_0 rfl ?_
  refine wp_iload_n dd_X11_result_1 rfl ?_
  refine wp_iload_n dd_X11_result_2 rfl ?_
  refine wp_iload_n dd_X11_result_3 rfl ?_
  refine wp_iload dd_X11_result_4 rfl ?_
  refine wp_callV (M' := mm_X11_notTable) (As := [zI a, zI b, zI le, zI tb]) (rest := []) dd_X11_result_6 lk_X11_176 mV_X11_notTable kk_67 (zlt rfl) ⟨_, _, rfl⟩ rfl (by decide) (by decide) (Nat.le_of_ble_eq_true rfl) rfl (sp_X11_notTable  a b le tb (by first | assumption | omega) (by first | assumption | omega) (by first | assumption | omega) ?_)
  show zw_Wp l mm_X11_result (zS L) 9 [some (zR 67), some (zI a), some (zI b), some (zI le), some (zI tb), some (zI d), none] [zI (if ¬ ((0 ≤ a ∧ a < mem 67 5) ∧ (0 ≤ b ∧ b < mem 67 5) ∧ 0 ≤ le ∧ le ≤ 1) then -1 else if ¬ (0 ≤ tb ∧ tb ≤ 1) then -2 else if zdeg (zco mem a) 0 25 < 0 ∨ zdeg (zco mem b) 0 25 < 0 then -3 else 0)] mem 0 0 Q
  change zw_Wp l _ _ 9 _ (zI (zyB mem a b le tb) :: _) _ _ _ _
  have hyc := zyB_c mem a b le tb
  refine wp_istore (ls2 := [some (zR 67), some (zI a), some (zI b), some (zI le), some (zI tb), some (zI d), some (zI (zyB mem a b le tb))]) dd_X11_result_9 rfl (by decide) rfl ?_
  refine wp_iload dd_X11_result_11 rfl ?_
  refine wp_if_ne (tgt := 41) dd_X11_result_13 (by decide) (fun c13_1 => ?_) (fun c13_1 => ?_)
  · skip
    refine wp_iload dd_X11_result_41 rfl ?_
    refine wp_if_eq (tgt := 53) dd_X11_result_43 (by decide) (fun c43_2 => ?_) (fun c43_2 => ?_)
    · skip
      have hz : zyB mem a b le tb = 0 := by omega
      obtain ⟨⟨hia, hib, hl, htb⟩, hna, hnb⟩ := zyB_0 hz
      have hTx := hTa a hia.1 hia.2
      have hTy := hTa b hib.1 hib.2
      refine wp_aload_n dd_X11_result_53 rfl ?_
      refine wp_iload_n dd_X11_result_54 rfl ?_
      refine wp_iload_n dd_X11_result_55 rfl ?_
      refine wp_iload_n dd_X11_result_56 rfl ?_
      refine wp_iload dd_X11_result_57 rfl ?_
      refine wp_callV (M' := mm_X11_results) (As := [zI a, zI b, zI le, zI tb]) (rest := []) dd_X11_result_59 lk_X11_224 mV_X11_results kk_67 (zlt rfl) ⟨_, _, rfl⟩ rfl (by decide) (by decide) (Nat.le_of_ble_eq_true rfl) rfl (sp_X11_results  a b le tb hp hTx hTy hl htb hna hnb (fun me f1 K1 => ?_))
      show zw_Wp l mm_X11_result (zS L) 62 [some (zR 67), some (zI a), some (zI b), some (zI le), some (zI tb), some (zI d), some (zI (zyB mem a b le tb))] [] me 0 0 Q
      have hm1 : me 67 1 = mem 67 1 := K1.kp.1
      have hr8 : ∀ d : Int, 0 ≤ d → d < 41 → 0 ≤ me 80 d ∧ me 80 d ≤ 31 := fun d q1 q2 => by rw [f1 d q1 q2]; have := zre_rg (a := a) (b := b) (le := le) (tb := tb) (d := d) hp; omega
      refine wp_aload_n dd_X11_result_62 rfl ?_
      refine wp_getR dd_X11_result_63 gf_X11_64 rfl kk_67 (by decide) (zlt rfl) rr_67_20 ?_
      refine wp_iload dd_X11_result_66 rfl ?_
      refine wp_iald dd_X11_result_68 kk_80 (zlt rfl) (by omega) (by omega) ?_
      refine wp_ireturn (st := []) dd_X11_result_69 rfl ?_
      exact k _ _ (Or.inr ⟨hz, Or.inr (Or.inr ⟨by omega, by omega, f1 d (by omega) (by omega), K1⟩)⟩)
    · skip
      refine wp_aload_n dd_X11_result_46 rfl ?_
      refine wp_iload dd_X11_result_47 rfl ?_
      refine wp_callV (M' := mm_X11_no) (As := [zI (zyB mem a b le tb)]) (rest := []) dd_X11_result_49 lk_X11_120 mV_X11_no kk_67 (zlt rfl) ⟨_, _, rfl⟩ rfl (by decide) (by decide) (Nat.le_of_ble_eq_true rfl) rfl (sp_X11_no  (zyB mem a b le tb) (by first | assumption | omega) ?_)
      show zw_Wp l mm_X11_result (zS L) 52 [some (zR 67), some (zI a), some (zI b), some (zI le), some (zI tb), some (zI d), some (zI (zyB mem a b le tb))] [zI (zyB mem a b le tb)] (zu mem 68 (-(zyB mem a b le tb)) (zwr (mem 68 (-(zyB mem a b le tb)) + 1))) 0 0 Q
      refine wp_ireturn (st := []) dd_X11_result_52 rfl ?_
      exact k _ _ (Or.inl ⟨by assumption, rfl, rfl⟩)
  · skip
    refine wp_iload dd_X11_result_16 rfl ?_
    refine wp_if_ge (tgt := 26) dd_X11_result_18 (by decide) (fun c18_3 => ?_) (fun c18_3 => ?_)
    · skip
      refine wp_iload dd_X11_result_26 rfl ?_
      refine wp_bipush dd_X11_result_28 (by decide) ?_
      refine wp_icmp_lt (tgt := 38) dd_X11_result_30 (by decide) (fun c30_4 => ?_) (fun c30_4 => ?_)
      · skip
        refine wp_iconst dd_X11_result_38 (zr_lit rfl) ?_
        refine wp_istore (ls2 := [some (zR 67), some (zI a), some (zI b), some (zI le), some (zI tb), some (zI d), some (zI 0)]) dd_X11_result_39 rfl (by decide) rfl ?_
        refine wp_iload dd_X11_result_41 rfl ?_
        refine wp_if_eq (tgt := 53) dd_X11_result_43 (by decide) (fun c43_5 => ?_) (fun c43_5 => absurd c43_5 (by decide))
        have hz : zyB mem a b le tb = 0 := by omega
        obtain ⟨⟨hia, hib, hl, htb⟩, hna, hnb⟩ := zyB_0 hz
        have hTx := hTa a hia.1 hia.2
        have hTy := hTa b hib.1 hib.2
        refine wp_aload_n dd_X11_result_53 rfl ?_
        refine wp_iload_n dd_X11_result_54 rfl ?_
        refine wp_iload_n dd_X11_result_55 rfl ?_
        refine wp_iload_n dd_X11_result_56 rfl ?_
        refine wp_iload dd_X11_result_57 rfl ?_
        refine wp_callV (M' := mm_X11_results) (As := [zI a, zI b, zI le, zI tb]) (rest := []) dd_X11_result_59 lk_X11_224 mV_X11_results kk_67 (zlt rfl) ⟨_, _, rfl⟩ rfl (by decide) (by decide) (Nat.le_of_ble_eq_true rfl) rfl (sp_X11_results  a b le tb hp hTx hTy hl htb hna hnb (fun me f1 K1 => ?_))
        show zw_Wp l mm_X11_result (zS L) 62 [some (zR 67), some (zI a), some (zI b), some (zI le), some (zI tb), some (zI d), some (zI 0)] [] me 0 0 Q
        have hm1 : me 67 1 = mem 67 1 := K1.kp.1
        have hr8 : ∀ d : Int, 0 ≤ d → d < 41 → 0 ≤ me 80 d ∧ me 80 d ≤ 31 := fun d q1 q2 => by rw [f1 d q1 q2]; have := zre_rg (a := a) (b := b) (le := le) (tb := tb) (d := d) hp; omega
        refine wp_aload_n dd_X11_result_62 rfl ?_
        refine wp_getR dd_X11_result_63 gf_X11_64 rfl kk_67 (by decide) (zlt rfl) rr_67_20 ?_
        refine wp_iload dd_X11_result_66 rfl ?_
        refine wp_iald dd_X11_result_68 kk_80 (zlt rfl) (by omega) (by omega) ?_
        refine wp_ireturn (st := []) dd_X11_result_69 rfl ?_
        exact k _ _ (Or.inr ⟨hz, Or.inr (Or.inr ⟨by omega, by omega, f1 d (by omega) (by omega), K1⟩)⟩)
      · skip
        refine wp_bipush dd_X11_result_33 (by decide) ?_
        refine wp_goto (tgt := 39) dd_X11_result_35 (by decide) ?_
        refine wp_istore (ls2 := [some (zR 67), some (zI a), some (zI b), some (zI le), some (zI tb), some (zI d), some (zI (-6))]) dd_X11_result_39 rfl (by decide) rfl ?_
        refine wp_iload dd_X11_result_41 rfl ?_
        refine wp_if_eq (tgt := 53) dd_X11_result_43 (by decide) (fun c43_6 => absurd c43_6 (by decide)) (fun c43_6 => ?_)
        refine wp_aload_n dd_X11_result_46 rfl ?_
        refine wp_iload dd_X11_result_47 rfl ?_
        refine wp_callV (M' := mm_X11_no) (As := [zI (-6)]) (rest := []) dd_X11_result_49 lk_X11_120 mV_X11_no kk_67 (zlt rfl) ⟨_, _, rfl⟩ rfl (by decide) (by decide) (Nat.le_of_ble_eq_true rfl) rfl (sp_X11_no  (-6) (by first | assumption | omega) ?_)
        show zw_Wp l mm_X11_result (zS L) 52 [some (zR 67), some (zI a), some (zI b), some (zI le), some (zI tb), some (zI d), some (zI (-6))] [zI (-6)] (zu mem 68 (-(-6)) (zwr (mem 68 (-(-6)) + 1))) 0 0 Q
        refine wp_ireturn (st := []) dd_X11_result_52 rfl ?_
        exact k _ _ (Or.inr ⟨by omega, Or.inr (Or.inl ⟨by omega, rfl, rfl⟩)⟩)
    · skip
      refine wp_bipush dd_X11_result_21 (by decide) ?_
      refine wp_goto (tgt := 39) dd_X11_result_23 (by decide) ?_
      refine wp_istore (ls2 := [some (zR 67), some (zI a), some (zI b), some (zI le), some (zI tb), some (zI d), some (zI (-4))]) dd_X11_result_39 rfl (by decide) rfl ?_
      refine wp_iload dd_X11_result_41 rfl ?_
      refine wp_if_eq (tgt := 53) dd_X11_result_43 (by decide) (fun c43_7 => absurd c43_7 (by decide)) (fun c43_7 => ?_)
      refine wp_aload_n dd_X11_result_46 rfl ?_
      refine wp_iload dd_X11_result_47 rfl ?_
      refine wp_callV (M' := mm_X11_no) (As := [zI (-4)]) (rest := []) dd_X11_result_49 lk_X11_120 mV_X11_no kk_67 (zlt rfl) ⟨_, _, rfl⟩ rfl (by decide) (by decide) (Nat.le_of_ble_eq_true rfl) rfl (sp_X11_no  (-4) (by first | assumption | omega) ?_)
      show zw_Wp l mm_X11_result (zS L) 52 [some (zR 67), some (zI a), some (zI b), some (zI le), some (zI tb), some (zI d), some (zI (-4))] [zI (-4)] (zu mem 68 (-(-4)) (zwr (mem 68 (-(-4)) + 1))) 0 0 Q
      refine wp_ireturn (st := []) dd_X11_result_52 rfl ?_
      exact k _ _ (Or.inr ⟨by omega, Or.inl ⟨by omega, rfl, rfl⟩⟩)

set_option maxRecDepth 100000 in
set_option maxHeartbeats 4000000 in
theorem sp_X11_degree {l : Launch} {L : Nat} {mem : zMem} {Q : zQ}  (a : Int) (b : Int) (le : Int) (tb : Int) (hp : zPr (mem 67 1)) (hn : 0 ≤ mem 67 5 ∧ mem 67 5 ≤ 6) (hTa : ∀ q : Int, 0 ≤ q → q < mem 67 5 → zT mem q) (k : ∀ (r : Int) (mem2 : zMem), ((zyB mem a b le tb ≠ 0 ∧ r = zyB mem a b le tb ∧ mem2 = zno mem (zyB mem a b le tb)) ∨ (zyB mem a b le tb = 0 ∧ r = zrdg (zre mem a b le tb) 41 ∧ zKp mem mem2)) → Q (some (zI r)) (zS L) mem2) : zw_Ok l mm_X11_degree [zR 67, zI a, zI b, zI le, zI tb] (zS L) mem Q := by
  refine zw_okA (fun hA => ?_)
  have rg_a : -2147483648 ≤ a ∧ a < 2147483648 := hA.2.1
  have rg_b : -2147483648 ≤ b ∧ b < 2147483648 := hA.2.2.1
  have rg_le : -2147483648 ≤ le ∧ le < 2147483648 := hA.2.2.2.1
  have rg_tb : -2147483648 ≤ tb ∧ tb < 2147483648 := hA.2.2.2.2.1
  refine zw_enter (by decide) (Nat.le_of_ble_eq_true rfl) rfl ?_
  show zw_Wp l mm_X11_degree (zS L) 0 [some (zR 67), some (zI a), some (zI b), some (zI le), some (zI tb), none, none] [] mem 0 0 Q
  have hpr := hp.rg
  refine wp_aload_n dd_X11_degree_0 rfl ?_
  refine wp_iload_n dd_X11_degree_1 rfl ?_
  refine wp_iload_n dd_X11_degree_2 rfl ?_
  refine wp_iload_n dd_X11_degree_3 rfl ?_
  refine wp_iload dd_X11_degree_4 rfl ?_
  refine wp_callV (M' := mm_X11_notTable) (As := [zI a, zI b, zI le, zI tb]) (rest := []) dd_X11_degree_6 lk_X11_176 mV_X11_notTable kk_67 (zlt rfl) ⟨_, _, rfl⟩ rfl (by decide) (by decide) (Nat.le_of_ble_eq_true rfl) rfl (sp_X11_notTable  a b le tb (by first | assumption | omega) (by first | assumption | omega) (by first | assumption | omega) ?_)
  show zw_Wp l mm_X11_degree (zS L) 9 [some (zR 67), some (zI a), some (zI b), some (zI le), some (zI tb), none, none] [zI (if ¬ ((0 ≤ a ∧ a < mem 67 5) ∧ (0 ≤ b ∧ b < mem 67 5) ∧ 0 ≤ le ∧ le ≤ 1) then -1 else if ¬ (0 ≤ tb ∧ tb ≤ 1) then -2 else if zdeg (zco mem a) 0 25 < 0 ∨ zdeg (zco mem b) 0 25 < 0 then -3 else 0)] mem 0 0 Q
  change zw_Wp l _ _ 9 _ (zI (zyB mem a b le tb) :: _) _ _ _ _
  have hyc := zyB_c mem a b le tb
  refine wp_istore (ls2 := [some (zR 67), some (zI a), some (zI b), some (zI le), some (zI tb), some (zI (zyB mem a b le tb)), none]) dd_X11_degree_9 rfl (by decide) rfl ?_
  refine wp_iload dd_X11_degree_11 rfl ?_
  refine wp_if_eq (tgt := 23) dd_X11_degree_13 (by decide) (fun c13_1 => ?_) (fun c13_1 => ?_)
  · skip
    have hz : zyB mem a b le tb = 0 := by omega
    obtain ⟨⟨hia, hib, hl, htb⟩, hna, hnb⟩ := zyB_0 hz
    have hTx := hTa a hia.1 hia.2
    have hTy := hTa b hib.1 hib.2
    refine wp_aload_n dd_X11_degree_23 rfl ?_
    refine wp_iload_n dd_X11_degree_24 rfl ?_
    refine wp_iload_n dd_X11_degree_25 rfl ?_
    refine wp_iload_n dd_X11_degree_26 rfl ?_
    refine wp_iload dd_X11_degree_27 rfl ?_
    refine wp_callV (M' := mm_X11_results) (As := [zI a, zI b, zI le, zI tb]) (rest := []) dd_X11_degree_29 lk_X11_224 mV_X11_results kk_67 (zlt rfl) ⟨_, _, rfl⟩ rfl (by decide) (by decide) (Nat.le_of_ble_eq_true rfl) rfl (sp_X11_results  a b le tb hp hTx hTy hl htb hna hnb (fun me f1 K1 => ?_))
    show zw_Wp l mm_X11_degree (zS L) 32 [some (zR 67), some (zI a), some (zI b), some (zI le), some (zI tb), some (zI (zyB mem a b le tb)), none] [] me 0 0 Q
    have hm1 : me 67 1 = mem 67 1 := K1.kp.1
    have hr8 : ∀ d : Int, 0 ≤ d → d < 41 → 0 ≤ me 80 d ∧ me 80 d ≤ 31 := fun d q1 q2 => by rw [f1 d q1 q2]; have := zre_rg (a := a) (b := b) (le := le) (tb := tb) (d := d) hp; omega
    refine wp_bipush dd_X11_degree_32 (by decide) ?_
    refine wp_istore (ls2 := [some (zR 67), some (zI a), some (zI b), some (zI le), some (zI tb), some (zI (zyB mem a b le tb)), some (zI 40)]) dd_X11_degree_34 rfl (by decide) rfl ?_
    have lp36 : ∀ (nf : Nat) (i : Int), (-1 ≤ i) → (i ≤ 40) → (zrdg (zre mem a b le tb) 41 = zrdg (zre mem a b le tb) (i + 1).toNat) → (i + 1) < (nf : Int) → zw_Wp l mm_X11_degree (zS L) 36 [some (zR 67), some (zI a), some (zI b), some (zI le), some (zI tb), some (zI (zyB mem a b le tb)), some (zI i)] [] me 0 0 Q := by
      intro nf
      induction nf with
      | zero =>
        intro i h0 h1 h2 hmu
        exfalso; omega
      | succ nf ih36 =>
        intro i h0 h1 h2 hmu
        refine wp_iload dd_X11_degree_36 rfl ?_
        refine wp_if_lt (tgt := 57) dd_X11_degree_38 (by decide) (fun c38_2 => ?_) (fun c38_2 => ?_)
        · skip
          refine wp_iload dd_X11_degree_57 rfl ?_
          refine wp_if_ge (tgt := 67) dd_X11_degree_59 (by decide) (fun c59_3 => ?_) (fun c59_3 => ?_)
          · skip
            refine wp_iload dd_X11_degree_67 rfl ?_
            refine wp_ireturn (st := []) dd_X11_degree_69 rfl ?_
            refine k _ _ (Or.inr ⟨hz, ?_, K1⟩)
            first
            | (exfalso; omega)
            | rw [h2, show (i + 1).toNat = i.toNat + 1 by omega, zrdg, show ((i.toNat : Nat) : Int) = i by omega, if_pos (by rw [← f1 i (by omega) (by omega)]; assumption)]
          · skip
            refine wp_bipush dd_X11_degree_62 (by decide) ?_
            refine wp_goto (tgt := 69) dd_X11_degree_64 (by decide) ?_
            refine wp_ireturn (st := []) dd_X11_degree_69 rfl ?_
            refine k _ _ (Or.inr ⟨hz, ?_, K1⟩)
            rw [h2, show (i + 1).toNat = 0 by omega]; rfl
        · skip
          refine wp_aload_n dd_X11_degree_41 rfl ?_
          refine wp_getR dd_X11_degree_42 gf_X11_64 rfl kk_67 (by decide) (zlt rfl) rr_67_20 ?_
          refine wp_iload dd_X11_degree_45 rfl ?_
          refine wp_iald dd_X11_degree_47 kk_80 (zlt rfl) (by omega) (by omega) ?_
          refine wp_if_ne (tgt := 57) dd_X11_degree_48 (by decide) (fun c48_4 => ?_) (fun c48_4 => ?_)
          · skip
            refine wp_iload dd_X11_degree_57 rfl ?_
            refine wp_if_ge (tgt := 67) dd_X11_degree_59 (by decide) (fun c59_5 => ?_) (fun c59_5 => ?_)
            · skip
              refine wp_iload dd_X11_degree_67 rfl ?_
              refine wp_ireturn (st := []) dd_X11_degree_69 rfl ?_
              refine k _ _ (Or.inr ⟨hz, ?_, K1⟩)
              first
              | (exfalso; omega)
              | rw [h2, show (i + 1).toNat = i.toNat + 1 by omega, zrdg, show ((i.toNat : Nat) : Int) = i by omega, if_pos (by rw [← f1 i (by omega) (by omega)]; assumption)]
            · skip
              refine wp_bipush dd_X11_degree_62 (by decide) ?_
              refine wp_goto (tgt := 69) dd_X11_degree_64 (by decide) ?_
              refine wp_ireturn (st := []) dd_X11_degree_69 rfl ?_
              refine k _ _ (Or.inr ⟨hz, ?_, K1⟩)
              rw [h2, show (i + 1).toNat = 0 by omega]; rfl
          · skip
            refine wp_iincC (ls2 := [some (zR 67), some (zI a), some (zI b), some (zI le), some (zI tb), some (zI (zyB mem a b le tb)), some (zI (i + (-1)))]) dd_X11_degree_51 rfl rfl (by decide) (by omega) rfl ?_
            refine wp_goto (tgt := 36) dd_X11_degree_54 (by decide) ?_
            refine ih36 (i + (-1)) ?_ ?_ ?_ ?_
            · first | omega | assumption | (intros; omega)
            · first | omega | assumption | (intros; omega)
            · rw [h2, show (i + 1).toNat = (i + -1 + 1).toNat + 1 by omega, zrdg, show (((i + -1 + 1).toNat : Nat) : Int) = i by omega, if_neg (by rw [← f1 i (by omega) (by omega)]; omega)]
            · omega
    refine lp36 ((40 + 1 : Int)).toNat.succ 40 ?_ ?_ ?_ ?_
    · first | omega | assumption | (intros; omega)
    · first | omega | assumption | (intros; omega)
    · rfl
    · omega
  · skip
    refine wp_aload_n dd_X11_degree_16 rfl ?_
    refine wp_iload dd_X11_degree_17 rfl ?_
    refine wp_callV (M' := mm_X11_no) (As := [zI (zyB mem a b le tb)]) (rest := []) dd_X11_degree_19 lk_X11_120 mV_X11_no kk_67 (zlt rfl) ⟨_, _, rfl⟩ rfl (by decide) (by decide) (Nat.le_of_ble_eq_true rfl) rfl (sp_X11_no  (zyB mem a b le tb) (by first | assumption | omega) ?_)
    show zw_Wp l mm_X11_degree (zS L) 22 [some (zR 67), some (zI a), some (zI b), some (zI le), some (zI tb), some (zI (zyB mem a b le tb)), none] [zI (zyB mem a b le tb)] (zu mem 68 (-(zyB mem a b le tb)) (zwr (mem 68 (-(zyB mem a b le tb)) + 1))) 0 0 Q
    refine wp_ireturn (st := []) dd_X11_degree_22 rfl ?_
    exact k _ _ (Or.inl ⟨by assumption, rfl, rfl⟩)

set_option maxRecDepth 100000 in
set_option maxHeartbeats 4000000 in
theorem sp_X11_at {l : Launch} {L : Nat} {mem : zMem} {Q : zQ}  (a : Int) (b : Int) (le : Int) (tb : Int) (v : Int) (hp : zPr (mem 67 1)) (hn : 0 ≤ mem 67 5 ∧ mem 67 5 ≤ 6) (hTa : ∀ q : Int, 0 ≤ q → q < mem 67 5 → zT mem q) (k : ∀ (r : Int) (mem2 : zMem), ((zyB mem a b le tb ≠ 0 ∧ r = zyB mem a b le tb ∧ mem2 = zno mem (zyB mem a b le tb)) ∨ (zyB mem a b le tb = 0 ∧ ((v < 0 ∧ r = -4 ∧ mem2 = zno mem (-4)) ∨ (mem 67 1 ≤ v ∧ r = -6 ∧ mem2 = zno mem (-6)) ∨ (0 ≤ v ∧ v < mem 67 1 ∧ r = zhr (zre mem a b le tb) v (mem 67 1) 41 41 ∧ zKp mem mem2)))) → Q (some (zI r)) (zS L) mem2) : zw_Ok l mm_X11_at [zR 67, zI a, zI b, zI le, zI tb, zI v] (zS L) mem Q := by
  refine zw_okA (fun hA => ?_)
  have rg_a : -2147483648 ≤ a ∧ a < 2147483648 := hA.2.1
  have rg_b : -2147483648 ≤ b ∧ b < 2147483648 := hA.2.2.1
  have rg_le : -2147483648 ≤ le ∧ le < 2147483648 := hA.2.2.2.1
  have rg_tb : -2147483648 ≤ tb ∧ tb < 2147483648 := hA.2.2.2.2.1
  have rg_v : -2147483648 ≤ v ∧ v < 2147483648 := hA.2.2.2.2.2.1
  refine zw_enter (by decide) (Nat.le_of_ble_eq_true rfl) rfl ?_
  show zw_Wp l mm_X11_at (zS L) 0 [some (zR 67), some (zI a), some (zI b), some (zI le), some (zI tb), some (zI v), none] [] mem 0 0 Q
  have hpr := hp.rg
  refine wp_aload_n dd_X11_at_0 rfl ?_
  refine wp_iload_n dd_X11_at_1 rfl ?_
  refine wp_iload_n dd_X11_at_2 rfl ?_
  refine wp_iload_n dd_X11_at_3 rfl ?_
  refine wp_iload dd_X11_at_4 rfl ?_
  refine wp_callV (M' := mm_X11_notTable) (As := [zI a, zI b, zI le, zI tb]) (rest := []) dd_X11_at_6 lk_X11_176 mV_X11_notTable kk_67 (zlt rfl) ⟨_, _, rfl⟩ rfl (by decide) (by decide) (Nat.le_of_ble_eq_true rfl) rfl (sp_X11_notTable  a b le tb (by first | assumption | omega) (by first | assumption | omega) (by first | assumption | omega) ?_)
  show zw_Wp l mm_X11_at (zS L) 9 [some (zR 67), some (zI a), some (zI b), some (zI le), some (zI tb), some (zI v), none] [zI (if ¬ ((0 ≤ a ∧ a < mem 67 5) ∧ (0 ≤ b ∧ b < mem 67 5) ∧ 0 ≤ le ∧ le ≤ 1) then -1 else if ¬ (0 ≤ tb ∧ tb ≤ 1) then -2 else if zdeg (zco mem a) 0 25 < 0 ∨ zdeg (zco mem b) 0 25 < 0 then -3 else 0)] mem 0 0 Q
  change zw_Wp l _ _ 9 _ (zI (zyB mem a b le tb) :: _) _ _ _ _
  have hyc := zyB_c mem a b le tb
  refine wp_istore (ls2 := [some (zR 67), some (zI a), some (zI b), some (zI le), some (zI tb), some (zI v), some (zI (zyB mem a b le tb))]) dd_X11_at_9 rfl (by decide) rfl ?_
  refine wp_iload dd_X11_at_11 rfl ?_
  refine wp_if_ne (tgt := 43) dd_X11_at_13 (by decide) (fun c13_1 => ?_) (fun c13_1 => ?_)
  · skip
    refine wp_iload dd_X11_at_43 rfl ?_
    refine wp_if_eq (tgt := 55) dd_X11_at_45 (by decide) (fun c45_2 => ?_) (fun c45_2 => ?_)
    · skip
      have hz : zyB mem a b le tb = 0 := by omega
      obtain ⟨⟨hia, hib, hl, htb⟩, hna, hnb⟩ := zyB_0 hz
      have hTx := hTa a hia.1 hia.2
      have hTy := hTa b hib.1 hib.2
      refine wp_aload_n dd_X11_at_55 rfl ?_
      refine wp_iload_n dd_X11_at_56 rfl ?_
      refine wp_iload_n dd_X11_at_57 rfl ?_
      refine wp_iload_n dd_X11_at_58 rfl ?_
      refine wp_iload dd_X11_at_59 rfl ?_
      refine wp_callV (M' := mm_X11_results) (As := [zI a, zI b, zI le, zI tb]) (rest := []) dd_X11_at_61 lk_X11_224 mV_X11_results kk_67 (zlt rfl) ⟨_, _, rfl⟩ rfl (by decide) (by decide) (Nat.le_of_ble_eq_true rfl) rfl (sp_X11_results  a b le tb hp hTx hTy hl htb hna hnb (fun me f1 K1 => ?_))
      show zw_Wp l mm_X11_at (zS L) 64 [some (zR 67), some (zI a), some (zI b), some (zI le), some (zI tb), some (zI v), some (zI (zyB mem a b le tb))] [] me 0 0 Q
      have hm1 : me 67 1 = mem 67 1 := K1.kp.1
      have hr8 : ∀ d : Int, 0 ≤ d → d < 41 → 0 ≤ me 80 d ∧ me 80 d ≤ 31 := fun d q1 q2 => by rw [f1 d q1 q2]; have := zre_rg (a := a) (b := b) (le := le) (tb := tb) (d := d) hp; omega
      refine wp_aload_n dd_X11_at_64 rfl ?_
      refine wp_iload dd_X11_at_65 rfl ?_
      refine wp_callV (M' := mm_X11_resultAt) (As := [zI v]) (rest := []) dd_X11_at_67 lk_X11_227 mV_X11_resultAt kk_67 (zlt rfl) ⟨_, _, rfl⟩ rfl (by decide) (by decide) (Nat.le_of_ble_eq_true rfl) rfl (sp_X11_resultAt  v (by rw [hm1]; exact hp) (by omega) hr8 ?_)
      show zw_Wp l mm_X11_at (zS L) 70 [some (zR 67), some (zI a), some (zI b), some (zI le), some (zI tb), some (zI v), some (zI (zyB mem a b le tb))] [zI (zhr (me 80) v (me 67 1) 41 41)] me 0 0 Q
      refine wp_ireturn (st := []) dd_X11_at_70 rfl ?_
      exact k _ _ (Or.inr ⟨hz, Or.inr (Or.inr ⟨by omega, by omega, by rw [hm1]; exact zhr_cg (fun x q1 q2 => f1 x q1 q2) 41 (by omega), K1⟩)⟩)
    · skip
      refine wp_aload_n dd_X11_at_48 rfl ?_
      refine wp_iload dd_X11_at_49 rfl ?_
      refine wp_callV (M' := mm_X11_no) (As := [zI (zyB mem a b le tb)]) (rest := []) dd_X11_at_51 lk_X11_120 mV_X11_no kk_67 (zlt rfl) ⟨_, _, rfl⟩ rfl (by decide) (by decide) (Nat.le_of_ble_eq_true rfl) rfl (sp_X11_no  (zyB mem a b le tb) (by first | assumption | omega) ?_)
      show zw_Wp l mm_X11_at (zS L) 54 [some (zR 67), some (zI a), some (zI b), some (zI le), some (zI tb), some (zI v), some (zI (zyB mem a b le tb))] [zI (zyB mem a b le tb)] (zu mem 68 (-(zyB mem a b le tb)) (zwr (mem 68 (-(zyB mem a b le tb)) + 1))) 0 0 Q
      refine wp_ireturn (st := []) dd_X11_at_54 rfl ?_
      exact k _ _ (Or.inl ⟨by assumption, rfl, rfl⟩)
  · skip
    refine wp_iload dd_X11_at_16 rfl ?_
    refine wp_if_ge (tgt := 26) dd_X11_at_18 (by decide) (fun c18_3 => ?_) (fun c18_3 => ?_)
    · skip
      refine wp_iload dd_X11_at_26 rfl ?_
      refine wp_aload_n dd_X11_at_28 rfl ?_
      refine wp_getZ 1 rfl dd_X11_at_29 gf_X11_9 rfl kk_67 (by decide) (zlt rfl) ?_
      refine wp_icmp_lt (tgt := 40) dd_X11_at_32 (by decide) (fun c32_4 => ?_) (fun c32_4 => ?_)
      · skip
        refine wp_iconst dd_X11_at_40 (zr_lit rfl) ?_
        refine wp_istore (ls2 := [some (zR 67), some (zI a), some (zI b), some (zI le), some (zI tb), some (zI v), some (zI 0)]) dd_X11_at_41 rfl (by decide) rfl ?_
        refine wp_iload dd_X11_at_43 rfl ?_
        refine wp_if_eq (tgt := 55) dd_X11_at_45 (by decide) (fun c45_5 => ?_) (fun c45_5 => absurd c45_5 (by decide))
        have hz : zyB mem a b le tb = 0 := by omega
        obtain ⟨⟨hia, hib, hl, htb⟩, hna, hnb⟩ := zyB_0 hz
        have hTx := hTa a hia.1 hia.2
        have hTy := hTa b hib.1 hib.2
        refine wp_aload_n dd_X11_at_55 rfl ?_
        refine wp_iload_n dd_X11_at_56 rfl ?_
        refine wp_iload_n dd_X11_at_57 rfl ?_
        refine wp_iload_n dd_X11_at_58 rfl ?_
        refine wp_iload dd_X11_at_59 rfl ?_
        refine wp_callV (M' := mm_X11_results) (As := [zI a, zI b, zI le, zI tb]) (rest := []) dd_X11_at_61 lk_X11_224 mV_X11_results kk_67 (zlt rfl) ⟨_, _, rfl⟩ rfl (by decide) (by decide) (Nat.le_of_ble_eq_true rfl) rfl (sp_X11_results  a b le tb hp hTx hTy hl htb hna hnb (fun me f1 K1 => ?_))
        show zw_Wp l mm_X11_at (zS L) 64 [some (zR 67), some (zI a), some (zI b), some (zI le), some (zI tb), some (zI v), some (zI 0)] [] me 0 0 Q
        have hm1 : me 67 1 = mem 67 1 := K1.kp.1
        have hr8 : ∀ d : Int, 0 ≤ d → d < 41 → 0 ≤ me 80 d ∧ me 80 d ≤ 31 := fun d q1 q2 => by rw [f1 d q1 q2]; have := zre_rg (a := a) (b := b) (le := le) (tb := tb) (d := d) hp; omega
        refine wp_aload_n dd_X11_at_64 rfl ?_
        refine wp_iload dd_X11_at_65 rfl ?_
        refine wp_callV (M' := mm_X11_resultAt) (As := [zI v]) (rest := []) dd_X11_at_67 lk_X11_227 mV_X11_resultAt kk_67 (zlt rfl) ⟨_, _, rfl⟩ rfl (by decide) (by decide) (Nat.le_of_ble_eq_true rfl) rfl (sp_X11_resultAt  v (by rw [hm1]; exact hp) (by omega) hr8 ?_)
        show zw_Wp l mm_X11_at (zS L) 70 [some (zR 67), some (zI a), some (zI b), some (zI le), some (zI tb), some (zI v), some (zI 0)] [zI (zhr (me 80) v (me 67 1) 41 41)] me 0 0 Q
        refine wp_ireturn (st := []) dd_X11_at_70 rfl ?_
        exact k _ _ (Or.inr ⟨hz, Or.inr (Or.inr ⟨by omega, by omega, by rw [hm1]; exact zhr_cg (fun x q1 q2 => f1 x q1 q2) 41 (by omega), K1⟩)⟩)
      · skip
        refine wp_bipush dd_X11_at_35 (by decide) ?_
        refine wp_goto (tgt := 41) dd_X11_at_37 (by decide) ?_
        refine wp_istore (ls2 := [some (zR 67), some (zI a), some (zI b), some (zI le), some (zI tb), some (zI v), some (zI (-6))]) dd_X11_at_41 rfl (by decide) rfl ?_
        refine wp_iload dd_X11_at_43 rfl ?_
        refine wp_if_eq (tgt := 55) dd_X11_at_45 (by decide) (fun c45_6 => absurd c45_6 (by decide)) (fun c45_6 => ?_)
        refine wp_aload_n dd_X11_at_48 rfl ?_
        refine wp_iload dd_X11_at_49 rfl ?_
        refine wp_callV (M' := mm_X11_no) (As := [zI (-6)]) (rest := []) dd_X11_at_51 lk_X11_120 mV_X11_no kk_67 (zlt rfl) ⟨_, _, rfl⟩ rfl (by decide) (by decide) (Nat.le_of_ble_eq_true rfl) rfl (sp_X11_no  (-6) (by first | assumption | omega) ?_)
        show zw_Wp l mm_X11_at (zS L) 54 [some (zR 67), some (zI a), some (zI b), some (zI le), some (zI tb), some (zI v), some (zI (-6))] [zI (-6)] (zu mem 68 (-(-6)) (zwr (mem 68 (-(-6)) + 1))) 0 0 Q
        refine wp_ireturn (st := []) dd_X11_at_54 rfl ?_
        exact k _ _ (Or.inr ⟨by omega, Or.inr (Or.inl ⟨by omega, rfl, rfl⟩)⟩)
    · skip
      refine wp_bipush dd_X11_at_21 (by decide) ?_
      refine wp_goto (tgt := 41) dd_X11_at_23 (by decide) ?_
      refine wp_istore (ls2 := [some (zR 67), some (zI a), some (zI b), some (zI le), some (zI tb), some (zI v), some (zI (-4))]) dd_X11_at_41 rfl (by decide) rfl ?_
      refine wp_iload dd_X11_at_43 rfl ?_
      refine wp_if_eq (tgt := 55) dd_X11_at_45 (by decide) (fun c45_7 => absurd c45_7 (by decide)) (fun c45_7 => ?_)
      refine wp_aload_n dd_X11_at_48 rfl ?_
      refine wp_iload dd_X11_at_49 rfl ?_
      refine wp_callV (M' := mm_X11_no) (As := [zI (-4)]) (rest := []) dd_X11_at_51 lk_X11_120 mV_X11_no kk_67 (zlt rfl) ⟨_, _, rfl⟩ rfl (by decide) (by decide) (Nat.le_of_ble_eq_true rfl) rfl (sp_X11_no  (-4) (by first | assumption | omega) ?_)
      show zw_Wp l mm_X11_at (zS L) 54 [some (zR 67), some (zI a), some (zI b), some (zI le), some (zI tb), some (zI v), some (zI (-4))] [zI (-4)] (zu mem 68 (-(-4)) (zwr (mem 68 (-(-4)) + 1))) 0 0 Q
      refine wp_ireturn (st := []) dd_X11_at_54 rfl ?_
      exact k _ _ (Or.inr ⟨by omega, Or.inl ⟨by omega, rfl, rfl⟩⟩)

set_option maxRecDepth 100000 in
set_option maxHeartbeats 4000000 in
theorem sp_X11_zeros {l : Launch} {L : Nat} {mem : zMem} {Q : zQ}  (a : Int) (b : Int) (le : Int) (hp : zPr (mem 67 1)) (hn : 0 ≤ mem 67 5 ∧ mem 67 5 ≤ 6) (hTa : ∀ q : Int, 0 ≤ q → q < mem 67 5 → zT mem q) (k : ∀ (r : Int) (mem2 : zMem), ((zyB mem a b le 0 ≠ 0 ∧ r = zyB mem a b le 0 ∧ mem2 = zno mem (zyB mem a b le 0)) ∨ (zyB mem a b le 0 = 0 ∧ r = zzs (fun v => zhr (zre mem a b le 0) v (mem 67 1) 41 41) (mem 67 1).toNat ∧ zKp mem mem2)) → Q (some (zI r)) (zS L) mem2) : zw_Ok l mm_X11_zeros [zR 67, zI a, zI b, zI le] (zS L) mem Q := by
  refine zw_okA (fun hA => ?_)
  have rg_a : -2147483648 ≤ a ∧ a < 2147483648 := hA.2.1
  have rg_b : -2147483648 ≤ b ∧ b < 2147483648 := hA.2.2.1
  have rg_le : -2147483648 ≤ le ∧ le < 2147483648 := hA.2.2.2.1
  refine zw_enter (by decide) (Nat.le_of_ble_eq_true rfl) rfl ?_
  show zw_Wp l mm_X11_zeros (zS L) 0 [some (zR 67), some (zI a), some (zI b), some (zI le), none, none, none] [] mem 0 0 Q
  have hpr := hp.rg
  refine wp_aload_n dd_X11_zeros_0 rfl ?_
  refine wp_iload_n dd_X11_zeros_1 rfl ?_
  refine wp_iload_n dd_X11_zeros_2 rfl ?_
  refine wp_iload_n dd_X11_zeros_3 rfl ?_
  refine wp_callV (M' := mm_X11_notBoth) (As := [zI a, zI b, zI le]) (rest := []) dd_X11_zeros_4 lk_X11_251 mV_X11_notBoth kk_67 (zlt rfl) ⟨_, _, rfl⟩ rfl (by decide) (by decide) (Nat.le_of_ble_eq_true rfl) rfl (sp_X11_notBoth  a b le (by first | assumption | omega) (by first | assumption | omega) (by first | assumption | omega) ?_)
  show zw_Wp l mm_X11_zeros (zS L) 7 [some (zR 67), some (zI a), some (zI b), some (zI le), none, none, none] [zI (if ¬ ((0 ≤ a ∧ a < mem 67 5) ∧ (0 ≤ b ∧ b < mem 67 5) ∧ 0 ≤ le ∧ le ≤ 1) then -1 else if ¬ (0 ≤ 0 ∧ 0 ≤ 1) then -2 else if zdeg (zco mem a) 0 25 < 0 ∨ zdeg (zco mem b) 0 25 < 0 then -3 else 0)] mem 0 0 Q
  change zw_Wp l _ _ 7 _ (zI (zyB mem a b le 0) :: _) _ _ _ _
  have hyc := zyB_c mem a b le 0
  refine wp_istore (ls2 := [some (zR 67), some (zI a), some (zI b), some (zI le), some (zI (zyB mem a b le 0)), none, none]) dd_X11_zeros_7 rfl (by decide) rfl ?_
  refine wp_iload dd_X11_zeros_9 rfl ?_
  refine wp_if_eq (tgt := 21) dd_X11_zeros_11 (by decide) (fun c11_1 => ?_) (fun c11_1 => ?_)
  · skip
    have hz : zyB mem a b le 0 = 0 := by omega
    obtain ⟨⟨hia, hib, hl, htb⟩, hna, hnb⟩ := zyB_0 hz
    have hTx := hTa a hia.1 hia.2
    have hTy := hTa b hib.1 hib.2
    refine wp_aload_n dd_X11_zeros_21 rfl ?_
    refine wp_iload_n dd_X11_zeros_22 rfl ?_
    refine wp_iload_n dd_X11_zeros_23 rfl ?_
    refine wp_iload_n dd_X11_zeros_24 rfl ?_
    refine wp_iconst dd_X11_zeros_25 (zr_lit rfl) ?_
    refine wp_callV (M' := mm_X11_results) (As := [zI a, zI b, zI le, zI 0]) (rest := []) dd_X11_zeros_26 lk_X11_224 mV_X11_results kk_67 (zlt rfl) ⟨_, _, rfl⟩ rfl (by decide) (by decide) (Nat.le_of_ble_eq_true rfl) rfl (sp_X11_results  a b le 0 hp hTx hTy hl htb hna hnb (fun me f1 K1 => ?_))
    show zw_Wp l mm_X11_zeros (zS L) 29 [some (zR 67), some (zI a), some (zI b), some (zI le), some (zI (zyB mem a b le 0)), none, none] [] me 0 0 Q
    have hm1 : me 67 1 = mem 67 1 := K1.kp.1
    have hr8 : ∀ d : Int, 0 ≤ d → d < 41 → 0 ≤ me 80 d ∧ me 80 d ≤ 31 := fun d q1 q2 => by rw [f1 d q1 q2]; have := zre_rg (a := a) (b := b) (le := le) (tb := 0) (d := d) hp; omega
    refine wp_iconst dd_X11_zeros_29 (zr_lit rfl) ?_
    refine wp_istore (ls2 := [some (zR 67), some (zI a), some (zI b), some (zI le), some (zI (zyB mem a b le 0)), some (zI 0), none]) dd_X11_zeros_30 rfl (by decide) rfl ?_
    refine wp_iconst dd_X11_zeros_32 (zr_lit rfl) ?_
    refine wp_istore (ls2 := [some (zR 67), some (zI a), some (zI b), some (zI le), some (zI (zyB mem a b le 0)), some (zI 0), some (zI 0)]) dd_X11_zeros_33 rfl (by decide) rfl ?_
    have lp35 : ∀ (nf : Nat) (w : Int) (v : Int), (0 ≤ v) → (v ≤ mem 67 1) → (w = zzs (fun v => zhr (zre mem a b le 0) v (mem 67 1) 41 41) v.toNat) → (mem 67 1 - v) < (nf : Int) → zw_Wp l mm_X11_zeros (zS L) 35 [some (zR 67), some (zI a), some (zI b), some (zI le), some (zI (zyB mem a b le 0)), some (zI w), some (zI v)] [] me 0 0 Q := by
      intro nf
      induction nf with
      | zero =>
        intro w v h0 h1 h2 hmu
        exfalso; omega
      | succ nf ih35 =>
        intro w v h0 h1 h2 hmu
        have h2x := fun q => z2_le (n := v) h0 q
        have he : zhr (me 80) v (me 67 1) 41 41 = zhr (zre mem a b le 0) v (mem 67 1) 41 41 := by rw [hm1]; exact zhr_cg (fun x q1 q2 => f1 x q1 q2) 41 (by omega)
        refine wp_iload dd_X11_zeros_35 rfl ?_
        refine wp_aload_n dd_X11_zeros_37 rfl ?_
        refine wp_getZ 1 rfl dd_X11_zeros_38 gf_X11_9 rfl kk_67 (by decide) (zlt rfl) ?_
        refine wp_icmp_ge (tgt := 72) dd_X11_zeros_41 (by decide) (fun c41_2 => ?_) (fun c41_2 => ?_)
        · skip
          refine wp_iload dd_X11_zeros_72 rfl ?_
          refine wp_ireturn (st := []) dd_X11_zeros_74 rfl ?_
          exact k _ _ (Or.inr ⟨hz, by rw [h2, show v = mem 67 1 by omega], K1⟩)
        · skip
          refine wp_iload dd_X11_zeros_44 rfl ?_
          refine wp_aload_n dd_X11_zeros_46 rfl ?_
          refine wp_iload dd_X11_zeros_47 rfl ?_
          refine wp_callV (M' := mm_X11_resultAt) (As := [zI v]) (rest := [zI w]) dd_X11_zeros_49 lk_X11_227 mV_X11_resultAt kk_67 (zlt rfl) ⟨_, _, rfl⟩ rfl (by decide) (by decide) (Nat.le_of_ble_eq_true rfl) rfl (sp_X11_resultAt  v (by rw [hm1]; exact hp) (by omega) hr8 ?_)
          show zw_Wp l mm_X11_zeros (zS L) 52 [some (zR 67), some (zI a), some (zI b), some (zI le), some (zI (zyB mem a b le 0)), some (zI w), some (zI v)] [zI (zhr (me 80) v (me 67 1) 41 41), zI w] me 0 0 Q
          refine wp_if_ne (tgt := 62) dd_X11_zeros_52 (by decide) (fun c52_3 => ?_) (fun c52_3 => ?_)
          · skip
            refine wp_iconst dd_X11_zeros_62 (zr_lit rfl) ?_
            refine wp_ior dd_X11_zeros_63 ?_
            refine wp_istore (ls2 := [some (zR 67), some (zI a), some (zI b), some (zI le), some (zI (zyB mem a b le 0)), some (zI ((Int32.ofInt w ||| Int32.ofInt 0).toInt)), some (zI v)]) dd_X11_zeros_64 rfl (by decide) rfl ?_
            refine wp_iincC (ls2 := [some (zR 67), some (zI a), some (zI b), some (zI le), some (zI (zyB mem a b le 0)), some (zI ((Int32.ofInt w ||| Int32.ofInt 0).toInt)), some (zI (v + 1))]) dd_X11_zeros_66 rfl rfl (by decide) (by omega) rfl ?_
            refine wp_goto (tgt := 35) dd_X11_zeros_69 (by decide) ?_
            refine ih35 ((Int32.ofInt w ||| Int32.ofInt 0).toInt) (v + 1) ?_ ?_ ?_ ?_
            · first | omega | assumption | (intros; omega)
            · first | omega | assumption | (intros; omega)
            · rw [show (v + 1).toNat = v.toNat + 1 by omega, zzs, show ((v.toNat : Nat) : Int) = v by omega, ← h2]
              first
              | (rw [if_pos (by rw [← he]; assumption)]; rfl)
              | (rw [if_neg (by rw [← he]; assumption)]; rfl)
            · omega
          · skip
            refine wp_iconst dd_X11_zeros_55 (zr_lit rfl) ?_
            refine wp_iload dd_X11_zeros_56 rfl ?_
            refine wp_ishlP dd_X11_zeros_58 (by decide) (by omega) (h2x (by omega)).2 ?_
            refine wp_goto (tgt := 63) dd_X11_zeros_59 (by decide) ?_
            refine wp_ior dd_X11_zeros_63 ?_
            refine wp_istore (ls2 := [some (zR 67), some (zI a), some (zI b), some (zI le), some (zI (zyB mem a b le 0)), some (zI ((Int32.ofInt w ||| Int32.ofInt (1 * 2 ^ v.toNat)).toInt)), some (zI v)]) dd_X11_zeros_64 rfl (by decide) rfl ?_
            refine wp_iincC (ls2 := [some (zR 67), some (zI a), some (zI b), some (zI le), some (zI (zyB mem a b le 0)), some (zI ((Int32.ofInt w ||| Int32.ofInt (1 * 2 ^ v.toNat)).toInt)), some (zI (v + 1))]) dd_X11_zeros_66 rfl rfl (by decide) (by omega) rfl ?_
            refine wp_goto (tgt := 35) dd_X11_zeros_69 (by decide) ?_
            refine ih35 ((Int32.ofInt w ||| Int32.ofInt (1 * 2 ^ v.toNat)).toInt) (v + 1) ?_ ?_ ?_ ?_
            · first | omega | assumption | (intros; omega)
            · first | omega | assumption | (intros; omega)
            · rw [show (v + 1).toNat = v.toNat + 1 by omega, zzs, show ((v.toNat : Nat) : Int) = v by omega, ← h2]
              first
              | (rw [if_pos (by rw [← he]; assumption)]; rfl)
              | (rw [if_neg (by rw [← he]; assumption)]; rfl)
            · omega
    refine lp35 ((mem 67 1 - 0 : Int)).toNat.succ 0 0 ?_ ?_ ?_ ?_
    · first | omega | assumption | (intros; omega)
    · first | omega | assumption | (intros; omega)
    · rfl
    · omega
  · skip
    refine wp_aload_n dd_X11_zeros_14 rfl ?_
    refine wp_iload dd_X11_zeros_15 rfl ?_
    refine wp_callV (M' := mm_X11_no) (As := [zI (zyB mem a b le 0)]) (rest := []) dd_X11_zeros_17 lk_X11_120 mV_X11_no kk_67 (zlt rfl) ⟨_, _, rfl⟩ rfl (by decide) (by decide) (Nat.le_of_ble_eq_true rfl) rfl (sp_X11_no  (zyB mem a b le 0) (by first | assumption | omega) ?_)
    show zw_Wp l mm_X11_zeros (zS L) 20 [some (zR 67), some (zI a), some (zI b), some (zI le), some (zI (zyB mem a b le 0)), none, none] [zI (zyB mem a b le 0)] (zu mem 68 (-(zyB mem a b le 0)) (zwr (mem 68 (-(zyB mem a b le 0)) + 1))) 0 0 Q
    refine wp_ireturn (st := []) dd_X11_zeros_20 rfl ?_
    exact k _ _ (Or.inl ⟨by assumption, rfl, rfl⟩)

set_option maxRecDepth 100000 in
set_option maxHeartbeats 4000000 in
theorem sp_X11_lays {l : Launch} {L : Nat} {mem : zMem} {Q : zQ}  (l0 : Int) (i : Int) (a : Int) (b : Int) (le : Int) (tb : Int) (hp : zPr (mem 67 1)) (hn : 0 ≤ mem 67 5 ∧ mem 67 5 ≤ 6) (hTa : ∀ q : Int, 0 ≤ q → q < mem 67 5 → zT mem q) (hs : zLs mem) (k : ∀ (r : Int) (mem2 : zMem), ((zyN mem l0 a b le tb ≠ 0 ∧ r = zyN mem l0 a b le tb ∧ mem2 = zno mem (zyN mem l0 a b le tb)) ∨ (zyN mem l0 a b le tb = 0 ∧ ((zyL mem l0 i ≠ 0 ∧ r = zyL mem l0 i ∧ mem2 = mem) ∨ (zyL mem l0 i = 0 ∧ r = mem 86 l0 - i ∧ (∀ x : Int, mem2 87 x = if 40 * l0 + i ≤ x ∧ x < 40 * l0 + mem 86 l0 then zre mem a b le tb (x - (40 * l0 + i)) else mem 87 x) ∧ ∃ m1, zKp mem m1 ∧ ∀ q : Nat, q ≠ 87 → mem2 q = m1 q)))) → Q (some (zI r)) (zS L) mem2) : zw_Ok l mm_X11_lays [zR 67, zI l0, zI i, zI a, zI b, zI le, zI tb] (zS L) mem Q := by
  refine zw_okA (fun hA => ?_)
  have rg_l0 : -2147483648 ≤ l0 ∧ l0 < 2147483648 := hA.2.1
  have rg_i : -2147483648 ≤ i ∧ i < 2147483648 := hA.2.2.1
  have rg_a : -2147483648 ≤ a ∧ a < 2147483648 := hA.2.2.2.1
  have rg_b : -2147483648 ≤ b ∧ b < 2147483648 := hA.2.2.2.2.1
  have rg_le : -2147483648 ≤ le ∧ le < 2147483648 := hA.2.2.2.2.2.1
  have rg_tb : -2147483648 ≤ tb ∧ tb < 2147483648 := hA.2.2.2.2.2.2.1
  refine zw_enter (by decide) (Nat.le_of_ble_eq_true rfl) rfl ?_
  show zw_Wp l mm_X11_lays (zS L) 0 [some (zR 67), some (zI l0), some (zI i), some (zI a), some (zI b), some (zI le), some (zI tb), none, none, none] [] mem 0 0 Q
  have hpr := hp.rg
  refine wp_aload_n dd_X11_lays_0 rfl ?_
  refine wp_iload_n dd_X11_lays_1 rfl ?_
  refine wp_iload_n dd_X11_lays_2 rfl ?_
  refine wp_iload dd_X11_lays_3 rfl ?_
  refine wp_iload dd_X11_lays_5 rfl ?_
  refine wp_iload dd_X11_lays_7 rfl ?_
  refine wp_callV (M' := mm_X11_notListed) (As := [zI l0, zI a, zI b, zI le, zI tb]) (rest := []) dd_X11_lays_9 lk_X11_328 mV_X11_notListed kk_67 (zlt rfl) ⟨_, _, rfl⟩ rfl (by decide) (by decide) (Nat.le_of_ble_eq_true rfl) rfl (sp_X11_notListed  l0 a b le tb (by first | assumption | omega) (by first | assumption | omega) (by first | assumption | omega) ?_)
  show zw_Wp l mm_X11_lays (zS L) 12 [some (zR 67), some (zI l0), some (zI i), some (zI a), some (zI b), some (zI le), some (zI tb), none, none, none] [zI (if ¬ (0 ≤ l0 ∧ l0 ≤ 2) then -1 else zyB mem a b le tb)] mem 0 0 Q
  change zw_Wp l _ _ 12 _ (zI (zyN mem l0 a b le tb) :: _) _ _ _ _
  have hyc := zyN_c mem l0 a b le tb
  refine wp_istore (ls2 := [some (zR 67), some (zI l0), some (zI i), some (zI a), some (zI b), some (zI le), some (zI tb), some (zI (zyN mem l0 a b le tb)), none, none]) dd_X11_lays_12 rfl (by decide) rfl ?_
  refine wp_iload dd_X11_lays_14 rfl ?_
  refine wp_if_eq (tgt := 26) dd_X11_lays_16 (by decide) (fun c16_1 => ?_) (fun c16_1 => ?_)
  · skip
    refine wp_aload_n dd_X11_lays_26 rfl ?_
    refine wp_iload_n dd_X11_lays_27 rfl ?_
    refine wp_iload_n dd_X11_lays_28 rfl ?_
    refine wp_callV (M' := mm_X11_notPlace) (As := [zI l0, zI i]) (rest := []) dd_X11_lays_29 lk_X11_325 mV_X11_notPlace kk_67 (zlt rfl) ⟨_, _, rfl⟩ rfl (by decide) (by decide) (Nat.le_of_ble_eq_true rfl) rfl (sp_X11_notPlace  l0 i (by first | assumption | omega) (by first | assumption | omega) ?_)
    show zw_Wp l mm_X11_lays (zS L) 32 [some (zR 67), some (zI l0), some (zI i), some (zI a), some (zI b), some (zI le), some (zI tb), some (zI (zyN mem l0 a b le tb)), none, none] [zI (zyL mem l0 i)] mem 0 0 Q
    have hz9 : zyN mem l0 a b le tb = 0 := by omega
    have hyr : zyL mem l0 i = 0 ∨ zyL mem l0 i = -11 ∨ zyL mem l0 i = -13 := by unfold zyL; omega
    have hy0 : zyL mem l0 i = 0 → 0 ≤ i ∧ i < mem 86 l0 := by unfold zyL; omega
    have hsz := hs l0 (by omega) (by omega)
    refine wp_istore (ls2 := [some (zR 67), some (zI l0), some (zI i), some (zI a), some (zI b), some (zI le), some (zI tb), some (zI (zyL mem l0 i)), none, none]) dd_X11_lays_32 rfl (by decide) rfl ?_
    refine wp_iload dd_X11_lays_34 rfl ?_
    refine wp_if_eq (tgt := 42) dd_X11_lays_36 (by decide) (fun c36_2 => ?_) (fun c36_2 => ?_)
    · skip
      have hz : zyB mem a b le tb = 0 := by omega
      obtain ⟨⟨hia, hib, hl, htb⟩, hna, hnb⟩ := zyB_0 hz
      have hTx := hTa a hia.1 hia.2
      have hTy := hTa b hib.1 hib.2
      have hzL : zyL mem l0 i = 0 := by omega
      have hyi := hy0 hzL
      refine wp_aload_n dd_X11_lays_42 rfl ?_
      refine wp_iload_n dd_X11_lays_43 rfl ?_
      refine wp_iload dd_X11_lays_44 rfl ?_
      refine wp_iload dd_X11_lays_46 rfl ?_
      refine wp_iload dd_X11_lays_48 rfl ?_
      refine wp_callV (M' := mm_X11_results) (As := [zI a, zI b, zI le, zI tb]) (rest := []) dd_X11_lays_50 lk_X11_224 mV_X11_results kk_67 (zlt rfl) ⟨_, _, rfl⟩ rfl (by decide) (by decide) (Nat.le_of_ble_eq_true rfl) rfl (sp_X11_results  a b le tb hp hTx hTy hl htb hna hnb (fun me f1 K1 => ?_))
      show zw_Wp l mm_X11_lays (zS L) 53 [some (zR 67), some (zI l0), some (zI i), some (zI a), some (zI b), some (zI le), some (zI tb), some (zI (zyL mem l0 i)), none, none] [] me 0 0 Q
      have hm1 : me 67 1 = mem 67 1 := K1.kp.1
      have hr8 : ∀ d : Int, 0 ≤ d → d < 41 → 0 ≤ me 80 d ∧ me 80 d ≤ 31 := fun d q1 q2 => by rw [f1 d q1 q2]; have := zre_rg (a := a) (b := b) (le := le) (tb := tb) (d := d) hp; omega
      have e86 : me 86 = mem 86 := K1.1 86 (by decide) (by decide) (by decide) (by decide) (by decide) (by decide) (by decide) (by decide) (by decide) (by decide) (by decide) (by decide)
      have e87 : me 87 = mem 87 := K1.1 87 (by decide) (by decide) (by decide) (by decide) (by decide) (by decide) (by decide) (by decide) (by decide) (by decide) (by decide) (by decide)
      rw [← e86] at hyi hsz
      refine wp_aload_n dd_X11_lays_53 rfl ?_
      refine wp_getR dd_X11_lays_54 gf_X11_83 rfl kk_67 (by decide) (zlt rfl) rr_67_30 ?_
      refine wp_iload_n dd_X11_lays_57 rfl ?_
      refine wp_iald dd_X11_lays_58 kk_86 (zlt rfl) (by omega) (by omega) ?_
      refine wp_iload_n dd_X11_lays_59 rfl ?_
      refine wp_isubC dd_X11_lays_60 (by omega) ?_
      refine wp_istore (ls2 := [some (zR 67), some (zI l0), some (zI i), some (zI a), some (zI b), some (zI le), some (zI tb), some (zI (zyL mem l0 i)), some (zI ((me 86 l0) - i)), none]) dd_X11_lays_61 rfl (by decide) rfl ?_
      refine wp_iconst dd_X11_lays_63 (zr_lit rfl) ?_
      refine wp_istore (ls2 := [some (zR 67), some (zI l0), some (zI i), some (zI a), some (zI b), some (zI le), some (zI tb), some (zI (zyL mem l0 i)), some (zI ((me 86 l0) - i)), some (zI 0)]) dd_X11_lays_64 rfl (by decide) rfl ?_
      have lp66 : ∀ (nf : Nat) (d : Int) (mm : zMem), (0 ≤ d) → (d ≤ me 86 l0 - i) → (∀ x : Int, mm 87 x = if 40 * l0 + i ≤ x ∧ x < 40 * l0 + i + d then zre mem a b le tb (x - (40 * l0 + i)) else me 87 x) → (∀ q : Nat, q ≠ 87 → mm q = me q) → (me 86 l0 - i - d) < (nf : Int) → zw_Wp l mm_X11_lays (zS L) 66 [some (zR 67), some (zI l0), some (zI i), some (zI a), some (zI b), some (zI le), some (zI tb), some (zI (zyL mem l0 i)), some (zI ((me 86 l0) - i)), some (zI d)] [] mm 0 0 Q := by
        intro nf
        induction nf with
        | zero =>
          intro d mm h0 h1 h2 h3 hmu
          exfalso; omega
        | succ nf ih66 =>
          intro d mm h0 h1 h2 h3 hmu
          refine wp_iload dd_X11_lays_66 rfl ?_
          refine wp_iload dd_X11_lays_68 rfl ?_
          refine wp_icmp_ge (tgt := 100) dd_X11_lays_70 (by decide) (fun c70_3 => ?_) (fun c70_3 => ?_)
          · skip
            refine wp_iload dd_X11_lays_100 rfl ?_
            refine wp_ireturn (st := []) dd_X11_lays_102 rfl ?_
            refine k _ _ (Or.inr ⟨hz9, Or.inr ⟨hzL, by rw [e86], fun x => ?_, me, K1, h3⟩⟩)
            rw [h2 x, e87, ← e86, show 40 * l0 + i + d = 40 * l0 + me 86 l0 by omega]
          · skip
            refine wp_aload_n dd_X11_lays_73 rfl ?_
            refine wp_getR dd_X11_lays_74 gf_X11_86 rfl kk_67 (by decide) (zlt rfl) rr_67_31 ?_
            refine wp_bipush dd_X11_lays_77 (by decide) ?_
            refine wp_iload_n dd_X11_lays_79 rfl ?_
            refine wp_imulC dd_X11_lays_80 (by omega) ?_
            refine wp_iload_n dd_X11_lays_81 rfl ?_
            refine wp_iaddC dd_X11_lays_82 (by omega) ?_
            refine wp_iload dd_X11_lays_83 rfl ?_
            refine wp_iaddC dd_X11_lays_85 (by omega) ?_
            refine wp_aload_n dd_X11_lays_86 rfl ?_
            refine wp_getR dd_X11_lays_87 gf_X11_64 rfl kk_67 (by decide) (zlt rfl) rr_67_20 ?_
            refine wp_iload dd_X11_lays_90 rfl ?_
            refine wp_iald dd_X11_lays_92 kk_80 (zlt rfl) (by omega) (by omega) ?_
            refine wp_iast dd_X11_lays_93 kk_87 (zlt rfl) (by omega) (by omega) ?_
            refine wp_iincC (ls2 := [some (zR 67), some (zI l0), some (zI i), some (zI a), some (zI b), some (zI le), some (zI tb), some (zI (zyL mem l0 i)), some (zI ((me 86 l0) - i)), some (zI (d + 1))]) dd_X11_lays_94 rfl rfl (by decide) (by omega) rfl ?_
            refine wp_goto (tgt := 66) dd_X11_lays_97 (by decide) ?_
            refine ih66 (d + 1) (zu mm 87 (((40 * l0) + i) + d) (mm 80 d)) ?_ ?_ ?_ ?_ ?_
            · first | omega | assumption | (intros; omega)
            · first | omega | assumption | (intros; omega)
            · intro x
              by_cases hx : x = 40 * l0 + i + d
              · subst hx; rw [zu_s, if_pos (by omega), h3 80 (by decide), f1 d (by omega) (by omega), show 40 * l0 + i + d - (40 * l0 + i) = d by omega]
              · rw [zu_n (Or.inr hx), h2 x]
                by_cases hl9 : 40 * l0 + i ≤ x ∧ x < 40 * l0 + i + d
                · rw [if_pos hl9, if_pos (by omega)]
                · rw [if_neg hl9, if_neg (by omega)]
            · intro q hq; rw [zu_row hq]; exact h3 q hq
            · omega
      refine lp66 ((me 86 l0 - i - 0 : Int)).toNat.succ 0 me ?_ ?_ ?_ ?_ ?_
      · first | omega | assumption | (intros; omega)
      · first | omega | assumption | (intros; omega)
      · intro x; rw [if_neg (by omega)]
      · intros; rfl
      · omega
    · skip
      refine wp_iload dd_X11_lays_39 rfl ?_
      refine wp_ireturn (st := []) dd_X11_lays_41 rfl ?_
      exact k _ _ (Or.inr ⟨hz9, Or.inl ⟨by assumption, rfl, rfl⟩⟩)
  · skip
    refine wp_aload_n dd_X11_lays_19 rfl ?_
    refine wp_iload dd_X11_lays_20 rfl ?_
    refine wp_callV (M' := mm_X11_no) (As := [zI (zyN mem l0 a b le tb)]) (rest := []) dd_X11_lays_22 lk_X11_120 mV_X11_no kk_67 (zlt rfl) ⟨_, _, rfl⟩ rfl (by decide) (by decide) (Nat.le_of_ble_eq_true rfl) rfl (sp_X11_no  (zyN mem l0 a b le tb) (by first | assumption | omega) ?_)
    show zw_Wp l mm_X11_lays (zS L) 25 [some (zR 67), some (zI l0), some (zI i), some (zI a), some (zI b), some (zI le), some (zI tb), some (zI (zyN mem l0 a b le tb)), none, none] [zI (zyN mem l0 a b le tb)] (zu mem 68 (-(zyN mem l0 a b le tb)) (zwr (mem 68 (-(zyN mem l0 a b le tb)) + 1))) 0 0 Q
    refine wp_ireturn (st := []) dd_X11_lays_25 rfl ?_
    exact k _ _ (Or.inl ⟨by assumption, rfl, rfl⟩)

set_option maxRecDepth 100000 in
set_option maxHeartbeats 4000000 in
theorem sp_X11_judge {l : Launch} {L : Nat} {mem : zMem} {Q : zQ}  (l0 : Int) (a : Int) (b : Int) (le : Int) (tb : Int) (hp : zPr (mem 67 1)) (hn : 0 ≤ mem 67 5 ∧ mem 67 5 ≤ 6) (hTa : ∀ q : Int, 0 ≤ q → q < mem 67 5 → zT mem q) (hs : zLs mem) (k : ∀ (r : Int) (mem2 : zMem), ((zyN mem l0 a b le tb ≠ 0 ∧ r = zyN mem l0 a b le tb ∧ mem2 = zno mem (zyN mem l0 a b le tb)) ∨ (zyN mem l0 a b le tb = 0 ∧ ((mem 86 l0 < 0 ∧ r = -11 ∧ mem2 = mem) ∨ (0 ≤ mem 86 l0 ∧ zjd (zli mem l0) (zre mem a b le tb) r ∧ zKp mem mem2)))) → Q (some (zI r)) (zS L) mem2) : zw_Ok l mm_X11_judge [zR 67, zI l0, zI a, zI b, zI le, zI tb] (zS L) mem Q := by
  refine zw_okA (fun hA => ?_)
  have rg_l0 : -2147483648 ≤ l0 ∧ l0 < 2147483648 := hA.2.1
  have rg_a : -2147483648 ≤ a ∧ a < 2147483648 := hA.2.2.1
  have rg_b : -2147483648 ≤ b ∧ b < 2147483648 := hA.2.2.2.1
  have rg_le : -2147483648 ≤ le ∧ le < 2147483648 := hA.2.2.2.2.1
  have rg_tb : -2147483648 ≤ tb ∧ tb < 2147483648 := hA.2.2.2.2.2.1
  refine zw_enter (by decide) (Nat.le_of_ble_eq_true rfl) rfl ?_
  show zw_Wp l mm_X11_judge (zS L) 0 [some (zR 67), some (zI l0), some (zI a), some (zI b), some (zI le), some (zI tb), none, none, none] [] mem 0 0 Q
  have hpr := hp.rg
  refine wp_aload_n dd_X11_judge_0 rfl ?_
  refine wp_iload_n dd_X11_judge_1 rfl ?_
  refine wp_iload_n dd_X11_judge_2 rfl ?_
  refine wp_iload_n dd_X11_judge_3 rfl ?_
  refine wp_iload dd_X11_judge_4 rfl ?_
  refine wp_iload dd_X11_judge_6 rfl ?_
  refine wp_callV (M' := mm_X11_notListed) (As := [zI l0, zI a, zI b, zI le, zI tb]) (rest := []) dd_X11_judge_8 lk_X11_328 mV_X11_notListed kk_67 (zlt rfl) ⟨_, _, rfl⟩ rfl (by decide) (by decide) (Nat.le_of_ble_eq_true rfl) rfl (sp_X11_notListed  l0 a b le tb (by first | assumption | omega) (by first | assumption | omega) (by first | assumption | omega) ?_)
  show zw_Wp l mm_X11_judge (zS L) 11 [some (zR 67), some (zI l0), some (zI a), some (zI b), some (zI le), some (zI tb), none, none, none] [zI (if ¬ (0 ≤ l0 ∧ l0 ≤ 2) then -1 else zyB mem a b le tb)] mem 0 0 Q
  change zw_Wp l _ _ 11 _ (zI (zyN mem l0 a b le tb) :: _) _ _ _ _
  have hyc := zyN_c mem l0 a b le tb
  refine wp_istore (ls2 := [some (zR 67), some (zI l0), some (zI a), some (zI b), some (zI le), some (zI tb), some (zI (zyN mem l0 a b le tb)), none, none]) dd_X11_judge_11 rfl (by decide) rfl ?_
  refine wp_iload dd_X11_judge_13 rfl ?_
  refine wp_if_eq (tgt := 25) dd_X11_judge_15 (by decide) (fun c15_1 => ?_) (fun c15_1 => ?_)
  · skip
    have hz9 : zyN mem l0 a b le tb = 0 := by omega
    have hsz := hs l0 (by omega) (by omega)
    refine wp_aload_n dd_X11_judge_25 rfl ?_
    refine wp_getR dd_X11_judge_26 gf_X11_83 rfl kk_67 (by decide) (zlt rfl) rr_67_30 ?_
    refine wp_iload_n dd_X11_judge_29 rfl ?_
    refine wp_iald dd_X11_judge_30 kk_86 (zlt rfl) (by omega) (by omega) ?_
    refine wp_if_ge (tgt := 37) dd_X11_judge_31 (by decide) (fun c31_2 => ?_) (fun c31_2 => ?_)
    · skip
      have hz : zyB mem a b le tb = 0 := by omega
      obtain ⟨⟨hia, hib, hl, htb⟩, hna, hnb⟩ := zyB_0 hz
      have hTx := hTa a hia.1 hia.2
      have hTy := hTa b hib.1 hib.2
      refine wp_aload_n dd_X11_judge_37 rfl ?_
      refine wp_iload_n dd_X11_judge_38 rfl ?_
      refine wp_iload_n dd_X11_judge_39 rfl ?_
      refine wp_iload dd_X11_judge_40 rfl ?_
      refine wp_iload dd_X11_judge_42 rfl ?_
      refine wp_callV (M' := mm_X11_results) (As := [zI a, zI b, zI le, zI tb]) (rest := []) dd_X11_judge_44 lk_X11_224 mV_X11_results kk_67 (zlt rfl) ⟨_, _, rfl⟩ rfl (by decide) (by decide) (Nat.le_of_ble_eq_true rfl) rfl (sp_X11_results  a b le tb hp hTx hTy hl htb hna hnb (fun me f1 K1 => ?_))
      show zw_Wp l mm_X11_judge (zS L) 47 [some (zR 67), some (zI l0), some (zI a), some (zI b), some (zI le), some (zI tb), some (zI (zyN mem l0 a b le tb)), none, none] [] me 0 0 Q
      have hm1 : me 67 1 = mem 67 1 := K1.kp.1
      have hr8 : ∀ d : Int, 0 ≤ d → d < 41 → 0 ≤ me 80 d ∧ me 80 d ≤ 31 := fun d q1 q2 => by rw [f1 d q1 q2]; have := zre_rg (a := a) (b := b) (le := le) (tb := tb) (d := d) hp; omega
      have e86 : me 86 = mem 86 := K1.1 86 (by decide) (by decide) (by decide) (by decide) (by decide) (by decide) (by decide) (by decide) (by decide) (by decide) (by decide) (by decide)
      have e87 : me 87 = mem 87 := K1.1 87 (by decide) (by decide) (by decide) (by decide) (by decide) (by decide) (by decide) (by decide) (by decide) (by decide) (by decide) (by decide)
      rw [← e86] at hsz
      refine wp_iconst dd_X11_judge_47 (zr_lit rfl) ?_
      refine wp_istore (ls2 := [some (zR 67), some (zI l0), some (zI a), some (zI b), some (zI le), some (zI tb), some (zI (zyN mem l0 a b le tb)), some (zI 0), none]) dd_X11_judge_48 rfl (by decide) rfl ?_
      have lp50 : ∀ (nf : Nat) (d : Int), (0 ≤ d) → (d ≤ 41) → (∀ e : Int, 0 ≤ e → e < d → zli mem l0 e = zre mem a b le tb e) → (41 - d) < (nf : Int) → zw_Wp l mm_X11_judge (zS L) 50 [some (zR 67), some (zI l0), some (zI a), some (zI b), some (zI le), some (zI tb), some (zI (zyN mem l0 a b le tb)), some (zI d), none] [] me 0 0 Q := by
        intro nf
        induction nf with
        | zero =>
          intro d h0 h1 h2 hmu
          exfalso; omega
        | succ nf ih50 =>
          intro d h0 h1 h2 hmu
          refine wp_iload dd_X11_judge_50 rfl ?_
          refine wp_bipush dd_X11_judge_52 (by decide) ?_
          refine wp_icmp_ge (tgt := 111) dd_X11_judge_54 (by decide) (fun c54_3 => ?_) (fun c54_3 => ?_)
          · skip
            refine wp_bipush dd_X11_judge_111 (by decide) ?_
            refine wp_ireturn (st := []) dd_X11_judge_113 rfl ?_
            exact k _ _ (Or.inr ⟨hz9, Or.inr ⟨by omega, Or.inr ⟨rfl, fun e q1 q2 => h2 e q1 (by omega)⟩, K1⟩⟩)
          · skip
            refine wp_iload dd_X11_judge_57 rfl ?_
            refine wp_aload_n dd_X11_judge_59 rfl ?_
            refine wp_getR dd_X11_judge_60 gf_X11_83 rfl kk_67 (by decide) (zlt rfl) rr_67_30 ?_
            refine wp_iload_n dd_X11_judge_63 rfl ?_
            refine wp_iald dd_X11_judge_64 kk_86 (zlt rfl) (by omega) (by omega) ?_
            refine wp_icmp_ge (tgt := 87) dd_X11_judge_65 (by decide) (fun c65_4 => ?_) (fun c65_4 => ?_)
            · skip
              refine wp_iconst dd_X11_judge_87 (zr_lit rfl) ?_
              refine wp_istore (ls2 := [some (zR 67), some (zI l0), some (zI a), some (zI b), some (zI le), some (zI tb), some (zI (zyN mem l0 a b le tb)), some (zI d), some (zI 0)]) dd_X11_judge_88 rfl (by decide) rfl ?_
              refine wp_iload dd_X11_judge_90 rfl ?_
              refine wp_aload_n dd_X11_judge_92 rfl ?_
              refine wp_getR dd_X11_judge_93 gf_X11_64 rfl kk_67 (by decide) (zlt rfl) rr_67_20 ?_
              refine wp_iload dd_X11_judge_96 rfl ?_
              refine wp_iald dd_X11_judge_98 kk_80 (zlt rfl) (by omega) (by omega) ?_
              refine wp_icmp_eq (tgt := 105) dd_X11_judge_99 (by decide) (fun c99_5 => ?_) (fun c99_5 => ?_)
              · skip
                refine wp_iincC (ls2 := [some (zR 67), some (zI l0), some (zI a), some (zI b), some (zI le), some (zI tb), some (zI (zyN mem l0 a b le tb)), some (zI (d + 1)), some (zI 0)]) dd_X11_judge_105 rfl rfl (by decide) (by omega) rfl ?_
                refine wp_goto (tgt := 50) dd_X11_judge_108 (by decide) ?_
                refine wp_ls (zw_sub_of (a := [some (zR 67), some (zI l0), some (zI a), some (zI b), some (zI le), some (zI tb), some (zI (zyN mem l0 a b le tb)), some (zI (d + 1)), none]) (And.intro rfl (And.intro rfl (And.intro rfl (And.intro rfl (And.intro rfl (And.intro rfl (And.intro rfl (And.intro rfl (trivial)))))))))) ?_
                refine ih50 (d + 1) ?_ ?_ ?_ ?_
                · first | omega | assumption | (intros; omega)
                · first | omega | assumption | (intros; omega)
                · intro e q1 q2
                  by_cases hx : e = d
                  · subst hx; rw [← f1 e (by omega) (by omega)]; unfold zli; rw [← e86, ← e87, ← hm1]
                    first | (rw [if_pos (by omega)]; omega) | (rw [if_neg (by omega)]; omega)
                  · exact h2 e q1 (by omega)
                · omega
              · skip
                refine wp_iload dd_X11_judge_102 rfl ?_
                refine wp_ireturn (st := []) dd_X11_judge_104 rfl ?_
                refine k _ _ (Or.inr ⟨hz9, Or.inr ⟨by omega, Or.inl ⟨by omega, by omega, ?_, h2⟩, K1⟩⟩)
                rw [← f1 d (by omega) (by omega)]; unfold zli; rw [← e86, ← e87, ← hm1]
                first | (rw [if_pos (by omega)]; omega) | (rw [if_neg (by omega)]; omega)
            · skip
              refine wp_aload_n dd_X11_judge_68 rfl ?_
              refine wp_aload_n dd_X11_judge_69 rfl ?_
              refine wp_getR dd_X11_judge_70 gf_X11_86 rfl kk_67 (by decide) (zlt rfl) rr_67_31 ?_
              refine wp_bipush dd_X11_judge_73 (by decide) ?_
              refine wp_iload_n dd_X11_judge_75 rfl ?_
              refine wp_imulC dd_X11_judge_76 (by omega) ?_
              refine wp_iload dd_X11_judge_77 rfl ?_
              refine wp_iaddC dd_X11_judge_79 (by omega) ?_
              refine wp_iald dd_X11_judge_80 kk_87 (zlt rfl) (by omega) (by omega) ?_
              refine wp_callV (M' := mm_X11_rest) (As := [zI (me 87 ((40 * l0) + d))]) (rest := []) dd_X11_judge_81 lk_X11_13 mV_X11_rest kk_67 (zlt rfl) ⟨_, _, rfl⟩ rfl (by decide) (by decide) (Nat.le_of_ble_eq_true rfl) rfl (sp_X11_rest  (me 87 ((40 * l0) + d)) (by rw [hm1]; exact hp) ?_)
              show zw_Wp l mm_X11_judge (zS L) 84 [some (zR 67), some (zI l0), some (zI a), some (zI b), some (zI le), some (zI tb), some (zI (zyN mem l0 a b le tb)), some (zI d), none] [zI ((me 87 ((40 * l0) + d)) % me 67 1)] me 0 0 Q
              refine wp_goto (tgt := 88) dd_X11_judge_84 (by decide) ?_
              refine wp_istore (ls2 := [some (zR 67), some (zI l0), some (zI a), some (zI b), some (zI le), some (zI tb), some (zI (zyN mem l0 a b le tb)), some (zI d), some (zI ((me 87 ((40 * l0) + d)) % me 67 1))]) dd_X11_judge_88 rfl (by decide) rfl ?_
              refine wp_iload dd_X11_judge_90 rfl ?_
              refine wp_aload_n dd_X11_judge_92 rfl ?_
              refine wp_getR dd_X11_judge_93 gf_X11_64 rfl kk_67 (by decide) (zlt rfl) rr_67_20 ?_
              refine wp_iload dd_X11_judge_96 rfl ?_
              refine wp_iald dd_X11_judge_98 kk_80 (zlt rfl) (by omega) (by omega) ?_
              refine wp_icmp_eq (tgt := 105) dd_X11_judge_99 (by decide) (fun c99_6 => ?_) (fun c99_6 => ?_)
              · skip
                refine wp_iincC (ls2 := [some (zR 67), some (zI l0), some (zI a), some (zI b), some (zI le), some (zI tb), some (zI (zyN mem l0 a b le tb)), some (zI (d + 1)), some (zI ((me 87 ((40 * l0) + d)) % me 67 1))]) dd_X11_judge_105 rfl rfl (by decide) (by omega) rfl ?_
                refine wp_goto (tgt := 50) dd_X11_judge_108 (by decide) ?_
                refine wp_ls (zw_sub_of (a := [some (zR 67), some (zI l0), some (zI a), some (zI b), some (zI le), some (zI tb), some (zI (zyN mem l0 a b le tb)), some (zI (d + 1)), none]) (And.intro rfl (And.intro rfl (And.intro rfl (And.intro rfl (And.intro rfl (And.intro rfl (And.intro rfl (And.intro rfl (trivial)))))))))) ?_
                refine ih50 (d + 1) ?_ ?_ ?_ ?_
                · first | omega | assumption | (intros; omega)
                · first | omega | assumption | (intros; omega)
                · intro e q1 q2
                  by_cases hx : e = d
                  · subst hx; rw [← f1 e (by omega) (by omega)]; unfold zli; rw [← e86, ← e87, ← hm1]
                    first | (rw [if_pos (by omega)]; omega) | (rw [if_neg (by omega)]; omega)
                  · exact h2 e q1 (by omega)
                · omega
              · skip
                refine wp_iload dd_X11_judge_102 rfl ?_
                refine wp_ireturn (st := []) dd_X11_judge_104 rfl ?_
                refine k _ _ (Or.inr ⟨hz9, Or.inr ⟨by omega, Or.inl ⟨by omega, by omega, ?_, h2⟩, K1⟩⟩)
                rw [← f1 d (by omega) (by omega)]; unfold zli; rw [← e86, ← e87, ← hm1]
                first | (rw [if_pos (by omega)]; omega) | (rw [if_neg (by omega)]; omega)
      refine lp50 ((41 - 0 : Int)).toNat.succ 0 ?_ ?_ ?_ ?_
      · first | omega | assumption | (intros; omega)
      · first | omega | assumption | (intros; omega)
      · intros; omega
      · omega
    · skip
      refine wp_bipush dd_X11_judge_34 (by decide) ?_
      refine wp_ireturn (st := []) dd_X11_judge_36 rfl ?_
      exact k _ _ (Or.inr ⟨hz9, Or.inl ⟨by omega, rfl, rfl⟩⟩)
  · skip
    refine wp_aload_n dd_X11_judge_18 rfl ?_
    refine wp_iload dd_X11_judge_19 rfl ?_
    refine wp_callV (M' := mm_X11_no) (As := [zI (zyN mem l0 a b le tb)]) (rest := []) dd_X11_judge_21 lk_X11_120 mV_X11_no kk_67 (zlt rfl) ⟨_, _, rfl⟩ rfl (by decide) (by decide) (Nat.le_of_ble_eq_true rfl) rfl (sp_X11_no  (zyN mem l0 a b le tb) (by first | assumption | omega) ?_)
    show zw_Wp l mm_X11_judge (zS L) 24 [some (zR 67), some (zI l0), some (zI a), some (zI b), some (zI le), some (zI tb), some (zI (zyN mem l0 a b le tb)), none, none] [zI (zyN mem l0 a b le tb)] (zu mem 68 (-(zyN mem l0 a b le tb)) (zwr (mem 68 (-(zyN mem l0 a b le tb)) + 1))) 0 0 Q
    refine wp_ireturn (st := []) dd_X11_judge_24 rfl ?_
    exact k _ _ (Or.inl ⟨by assumption, rfl, rfl⟩)

