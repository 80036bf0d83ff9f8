/-! ===== the reference: the next corner ===== -/
/-- of the first n places, that which lies furthest behind -/
def zbh (f : Int → Int) (p : Int) : Nat → Int
  | 0 => p
  | n + 1 => if f n ≠ 0 ∧ (n : Int) ≠ p ∧ (zbh f p n = p ∨ ztn p (zbh f p n) n < 0 ∨ (ztn p (zbh f p n) n = 0 ∧ zfar p (zbh f p n) < zfar p n)) then n else zbh f p n
theorem zbh_rg {f : Int → Int} {p : Int} (h : 0 ≤ p ∧ p < 144) : ∀ n : Nat, n ≤ 144 → 0 ≤ zbh f p n ∧ zbh f p n < 144
  | 0, _ => h
  | n + 1, q => by
    have := zbh_rg (f := f) h n (by omega)
    unfold zbh
    split <;> omega

set_option maxRecDepth 100000 in
set_option maxHeartbeats 4000000 in
theorem sp_X11_behind {l : Launch} {L : Nat} {mem : zMem} {Q : zQ}  (a : Int) (ha : 0 ≤ a ∧ a < 144) (k : Q (some (zI (zbh (mem 84) a 144))) (zS L) mem) : zw_Ok l mm_X11_behind [zR 67, zI a] (zS L) mem Q := by
  refine zw_okA (fun hA => ?_)
  have rg_a : -2147483648 ≤ a ∧ a < 2147483648 := hA.2.1
  refine zw_enter (by decide) (Nat.le_of_ble_eq_true rfl) rfl ?_
  show zw_Wp l mm_X11_behind (zS L) 0 [some (zR 67), some (zI a), none, none, none] [] mem 0 0 Q
  refine wp_iload_n dd_X11_behind_0 rfl ?_
  refine wp_istore_n (ls2 := [some (zR 67), some (zI a), some (zI a), none, none]) dd_X11_behind_1 rfl (by decide) rfl ?_
  refine wp_iconst dd_X11_behind_2 (zr_lit rfl) ?_
  refine wp_istore_n (ls2 := [some (zR 67), some (zI a), some (zI a), some (zI 0), none]) dd_X11_behind_3 rfl (by decide) rfl ?_
  have lp4 : ∀ (nf : Nat) (b : Int) (i : Int), (0 ≤ i) → (i ≤ 144) → (b = zbh (mem 84) a i.toNat) → (144 - i) < (nf : Int) → zw_Wp l mm_X11_behind (zS L) 4 [some (zR 67), some (zI a), some (zI b), some (zI i), none] [] mem 0 0 Q := by
    intro nf
    induction nf with
    | zero =>
      intro b i h0 h1 h2 hmu
      exfalso; omega
    | succ nf ih4 =>
      intro b i h0 h1 h2 hmu
      have hb := zbh_rg (f := mem 84) ha i.toNat (by omega)
      rw [← h2] at hb
      refine wp_iload_n dd_X11_behind_4 rfl ?_
      refine wp_sipush dd_X11_behind_5 (by decide) ?_
      refine wp_icmp_ge (tgt := 76) dd_X11_behind_8 (by decide) (fun c8_1 => ?_) (fun c8_1 => ?_)
      · skip
        refine wp_iload_n dd_X11_behind_76 rfl ?_
        refine wp_ireturn (st := []) dd_X11_behind_77 rfl ?_
        refine zq_I ?_ ?_ k
        · rw [h2, show i.toNat = 144 by omega]
        · rfl
      · skip
        refine wp_aload_n dd_X11_behind_11 rfl ?_
        refine wp_getR dd_X11_behind_12 gf_X11_76 rfl kk_67 (by decide) (zlt rfl) rr_67_26 ?_
        refine wp_iload_n dd_X11_behind_15 rfl ?_
        refine wp_bald dd_X11_behind_16 kk_84 (zlt rfl) (by omega) (by omega) ?_
        refine wp_if_eq (tgt := 70) dd_X11_behind_17 (by decide) (fun c17_2 => ?_) (fun c17_2 => ?_)
        · skip
          refine wp_iincC (ls2 := [some (zR 67), some (zI a), some (zI b), some (zI (i + 1)), none]) dd_X11_behind_70 rfl rfl (by decide) (by omega) rfl ?_
          refine wp_goto (tgt := 4) dd_X11_behind_73 (by decide) ?_
          refine ih4 b (i + 1) ?_ ?_ ?_ ?_
          · first | omega | assumption | (intros; omega)
          · first | omega | assumption | (intros; omega)
          · rw [show (i + 1).toNat = i.toNat + 1 by omega, zbh, ← h2, show ((i.toNat : Nat) : Int) = i by omega]
            first
            | rw [if_pos ⟨by omega, by omega, by omega⟩]
            | rw [if_neg (fun q => by have q1 := q.1; omega)]
            | rw [if_neg (fun q => by have q1 := q.2.1; omega)]
            | rw [if_neg (fun q => by have q1 := q.2.2; omega)]
          · omega
        · skip
          refine wp_iload_n dd_X11_behind_20 rfl ?_
          refine wp_iload_n dd_X11_behind_21 rfl ?_
          refine wp_icmp_ne (tgt := 28) dd_X11_behind_22 (by decide) (fun c22_3 => ?_) (fun c22_3 => ?_)
          · skip
            refine wp_iload_n dd_X11_behind_28 rfl ?_
            refine wp_iload_n dd_X11_behind_29 rfl ?_
            refine wp_icmp_ne (tgt := 37) dd_X11_behind_30 (by decide) (fun c30_4 => ?_) (fun c30_4 => ?_)
            · skip
              refine wp_iload_n dd_X11_behind_37 rfl ?_
              refine wp_iload_n dd_X11_behind_38 rfl ?_
              refine wp_iload_n dd_X11_behind_39 rfl ?_
              refine wp_callS (M' := mm_X11_turns) (As := [zI a, zI b, zI i]) (rest := []) dd_X11_behind_40 lk_X11_268 mS_X11_turns rfl (by decide) (by decide) (Nat.le_of_ble_eq_true rfl) rfl (sp_X11_turns  a b i ha hb (by omega) ?_)
              show zw_Wp l mm_X11_behind (zS L) 43 [some (zR 67), some (zI a), some (zI b), some (zI i), none] [zI (ztn a b i)] mem 0 0 Q
              refine wp_istore (ls2 := [some (zR 67), some (zI a), some (zI b), some (zI i), some (zI (ztn a b i))]) dd_X11_behind_43 rfl (by decide) rfl ?_
              refine wp_iload dd_X11_behind_45 rfl ?_
              refine wp_if_lt (tgt := 68) dd_X11_behind_47 (by decide) (fun c47_5 => ?_) (fun c47_5 => ?_)
              · skip
                refine wp_iload_n dd_X11_behind_68 rfl ?_
                refine wp_istore_n (ls2 := [some (zR 67), some (zI a), some (zI i), some (zI i), some (zI (ztn a b i))]) dd_X11_behind_69 rfl (by decide) rfl ?_
                refine wp_iincC (ls2 := [some (zR 67), some (zI a), some (zI i), some (zI (i + 1)), some (zI (ztn a b i))]) dd_X11_behind_70 rfl rfl (by decide) (by omega) rfl ?_
                refine wp_goto (tgt := 4) dd_X11_behind_73 (by decide) ?_
                refine wp_ls (zw_sub_of (a := [some (zR 67), some (zI a), some (zI i), some (zI (i + 1)), none]) (And.intro rfl (And.intro rfl (And.intro rfl (And.intro rfl (trivial)))))) ?_
                refine ih4 i (i + 1) ?_ ?_ ?_ ?_
                · first | omega | assumption | (intros; omega)
                · first | omega | assumption | (intros; omega)
                · rw [show (i + 1).toNat = i.toNat + 1 by omega, zbh, ← h2, show ((i.toNat : Nat) : Int) = i by omega]
                  first
                  | rw [if_pos ⟨by omega, by omega, by omega⟩]
                  | rw [if_neg (fun q => by have q1 := q.1; omega)]
                  | rw [if_neg (fun q => by have q1 := q.2.1; omega)]
                  | rw [if_neg (fun q => by have q1 := q.2.2; omega)]
                · omega
              · skip
                refine wp_iload dd_X11_behind_50 rfl ?_
                refine wp_if_ne (tgt := 70) dd_X11_behind_52 (by decide) (fun c52_6 => ?_) (fun c52_6 => ?_)
                · skip
                  refine wp_iincC (ls2 := [some (zR 67), some (zI a), some (zI b), some (zI (i + 1)), some (zI (ztn a b i))]) dd_X11_behind_70 rfl rfl (by decide) (by omega) rfl ?_
                  refine wp_goto (tgt := 4) dd_X11_behind_73 (by decide) ?_
                  refine wp_ls (zw_sub_of (a := [some (zR 67), some (zI a), some (zI b), some (zI (i + 1)), none]) (And.intro rfl (And.intro rfl (And.intro rfl (And.intro rfl (trivial)))))) ?_
                  refine ih4 b (i + 1) ?_ ?_ ?_ ?_
                  · first | omega | assumption | (intros; omega)
                  · first | omega | assumption | (intros; omega)
                  · rw [show (i + 1).toNat = i.toNat + 1 by omega, zbh, ← h2, show ((i.toNat : Nat) : Int) = i by omega]
                    first
                    | rw [if_pos ⟨by omega, by omega, by omega⟩]
                    | rw [if_neg (fun q => by have q1 := q.1; omega)]
                    | rw [if_neg (fun q => by have q1 := q.2.1; omega)]
                    | rw [if_neg (fun q => by have q1 := q.2.2; omega)]
                  · omega
                · skip
                  refine wp_iload_n dd_X11_behind_55 rfl ?_
                  refine wp_iload_n dd_X11_behind_56 rfl ?_
                  refine wp_callS (M' := mm_X11_far) (As := [zI a, zI i]) (rest := []) dd_X11_behind_57 lk_X11_271 mS_X11_far rfl (by decide) (by decide) (Nat.le_of_ble_eq_true rfl) rfl (sp_X11_far  a i ha (by omega) ?_)
                  show zw_Wp l mm_X11_behind (zS L) 60 [some (zR 67), some (zI a), some (zI b), some (zI i), some (zI (ztn a b i))] [zI (zfar a i)] mem 0 0 Q
                  refine wp_iload_n dd_X11_behind_60 rfl ?_
                  refine wp_iload_n dd_X11_behind_61 rfl ?_
                  refine wp_callS (M' := mm_X11_far) (As := [zI a, zI b]) (rest := [zI (zfar a i)]) dd_X11_behind_62 lk_X11_271 mS_X11_far rfl (by decide) (by decide) (Nat.le_of_ble_eq_true rfl) rfl (sp_X11_far  a b ha hb ?_)
                  show zw_Wp l mm_X11_behind (zS L) 65 [some (zR 67), some (zI a), some (zI b), some (zI i), some (zI (ztn a b i))] [zI (zfar a b), zI (zfar a i)] mem 0 0 Q
                  refine wp_icmp_le (tgt := 70) dd_X11_behind_65 (by decide) (fun c65_7 => ?_) (fun c65_7 => ?_)
                  · skip
                    refine wp_iincC (ls2 := [some (zR 67), some (zI a), some (zI b), some (zI (i + 1)), some (zI (ztn a b i))]) dd_X11_behind_70 rfl rfl (by decide) (by omega) rfl ?_
                    refine wp_goto (tgt := 4) dd_X11_behind_73 (by decide) ?_
                    refine wp_ls (zw_sub_of (a := [some (zR 67), some (zI a), some (zI b), some (zI (i + 1)), none]) (And.intro rfl (And.intro rfl (And.intro rfl (And.intro rfl (trivial)))))) ?_
                    refine ih4 b (i + 1) ?_ ?_ ?_ ?_
                    · first | omega | assumption | (intros; omega)
                    · first | omega | assumption | (intros; omega)
                    · rw [show (i + 1).toNat = i.toNat + 1 by omega, zbh, ← h2, show ((i.toNat : Nat) : Int) = i by omega]
                      first
                      | rw [if_pos ⟨by omega, by omega, by omega⟩]
                      | rw [if_neg (fun q => by have q1 := q.1; omega)]
                      | rw [if_neg (fun q => by have q1 := q.2.1; omega)]
                      | rw [if_neg (fun q => by have q1 := q.2.2; omega)]
                    · omega
                  · skip
                    refine wp_iload_n dd_X11_behind_68 rfl ?_
                    refine wp_istore_n (ls2 := [some (zR 67), some (zI a), some (zI i), some (zI i), some (zI (ztn a b i))]) dd_X11_behind_69 rfl (by decide) rfl ?_
                    refine wp_iincC (ls2 := [some (zR 67), some (zI a), some (zI i), some (zI (i + 1)), some (zI (ztn a b i))]) dd_X11_behind_70 rfl rfl (by decide) (by omega) rfl ?_
                    refine wp_goto (tgt := 4) dd_X11_behind_73 (by decide) ?_
                    refine wp_ls (zw_sub_of (a := [some (zR 67), some (zI a), some (zI i), some (zI (i + 1)), none]) (And.intro rfl (And.intro rfl (And.intro rfl (And.intro rfl (trivial)))))) ?_
                    refine ih4 i (i + 1) ?_ ?_ ?_ ?_
                    · first | omega | assumption | (intros; omega)
                    · first | omega | assumption | (intros; omega)
                    · rw [show (i + 1).toNat = i.toNat + 1 by omega, zbh, ← h2, show ((i.toNat : Nat) : Int) = i by omega]
                      first
                      | rw [if_pos ⟨by omega, by omega, by omega⟩]
                      | rw [if_neg (fun q => by have q1 := q.1; omega)]
                      | rw [if_neg (fun q => by have q1 := q.2.1; omega)]
                      | rw [if_neg (fun q => by have q1 := q.2.2; omega)]
                    · omega
            · skip
              refine wp_iconst dd_X11_behind_33 (zr_lit rfl) ?_
              refine wp_goto (tgt := 43) dd_X11_behind_34 (by decide) ?_
              refine wp_istore (ls2 := [some (zR 67), some (zI a), some (zI b), some (zI i), some (zI (-1))]) dd_X11_behind_43 rfl (by decide) rfl ?_
              refine wp_iload dd_X11_behind_45 rfl ?_
              refine wp_if_lt (tgt := 68) dd_X11_behind_47 (by decide) (fun c47_8 => ?_) (fun c47_8 => absurd c47_8 (by decide))
              refine wp_iload_n dd_X11_behind_68 rfl ?_
              refine wp_istore_n (ls2 := [some (zR 67), some (zI a), some (zI i), some (zI i), some (zI (-1))]) dd_X11_behind_69 rfl (by decide) rfl ?_
              refine wp_iincC (ls2 := [some (zR 67), some (zI a), some (zI i), some (zI (i + 1)), some (zI (-1))]) dd_X11_behind_70 rfl rfl (by decide) (by omega) rfl ?_
              refine wp_goto (tgt := 4) dd_X11_behind_73 (by decide) ?_
              refine wp_ls (zw_sub_of (a := [some (zR 67), some (zI a), some (zI i), some (zI (i + 1)), none]) (And.intro rfl (And.intro rfl (And.intro rfl (And.intro rfl (trivial)))))) ?_
              refine ih4 i (i + 1) ?_ ?_ ?_ ?_
              · first | omega | assumption | (intros; omega)
              · first | omega | assumption | (intros; omega)
              · rw [show (i + 1).toNat = i.toNat + 1 by omega, zbh, ← h2, show ((i.toNat : Nat) : Int) = i by omega]
                first
                | rw [if_pos ⟨by omega, by omega, by omega⟩]
                | rw [if_neg (fun q => by have q1 := q.1; omega)]
                | rw [if_neg (fun q => by have q1 := q.2.1; omega)]
                | rw [if_neg (fun q => by have q1 := q.2.2; omega)]
              · omega
          · skip
            refine wp_goto (tgt := 70) dd_X11_behind_25 (by decide) ?_
            refine wp_iincC (ls2 := [some (zR 67), some (zI a), some (zI b), some (zI (i + 1)), none]) dd_X11_behind_70 rfl rfl (by decide) (by omega) rfl ?_
            refine wp_goto (tgt := 4) dd_X11_behind_73 (by decide) ?_
            refine ih4 b (i + 1) ?_ ?_ ?_ ?_
            · first | omega | assumption | (intros; omega)
            · first | omega | assumption | (intros; omega)
            · rw [show (i + 1).toNat = i.toNat + 1 by omega, zbh, ← h2, show ((i.toNat : Nat) : Int) = i by omega]
              first
              | rw [if_pos ⟨by omega, by omega, by omega⟩]
              | rw [if_neg (fun q => by have q1 := q.1; omega)]
              | rw [if_neg (fun q => by have q1 := q.2.1; omega)]
              | rw [if_neg (fun q => by have q1 := q.2.2; omega)]
            · omega
  refine lp4 ((144 - 0 : Int)).toNat.succ a 0 ?_ ?_ ?_ ?_
  · first | omega | assumption | (intros; omega)
  · first | omega | assumption | (intros; omega)
  · rfl
  · omega

