/-! ===== Numbers ===== -/
def zPM (mem : zMem) : Prop := mem 1000 0 = 2 ∧ mem 1000 1 = 3 ∧ mem 1000 2 = 5 ∧ mem 1000 3 = 7 ∧ mem 1000 4 = 11 ∧ mem 1000 5 = 13 ∧ mem 1000 6 = 17 ∧ mem 1000 7 = 19 ∧ mem 1000 8 = 23 ∧ mem 1000 9 = 29 ∧ mem 1000 10 = 31
def zhr (f : Int → Int) (v p n : Int) : Nat → Int
  | 0 => 0
  | k + 1 => (zhr f v p n k * v + f (n - 1 - k)) % p
theorem zhr_rg {f : Int → Int} {v p n : Int} (hp : 0 < p) : ∀ k, 0 ≤ zhr f v p n k ∧ zhr f v p n k < p
  | 0 => ⟨Int.le_refl 0, hp⟩
  | k + 1 => zm_rg hp
def zinv_t (p a : Nat) : Nat := a ^ (p - 2) % p
theorem zinv_all : ∀ p ∈ [2, 3, 5, 7, 11, 13, 17, 19, 23, 29, 31], ∀ a ∈ List.range 31, (0 < a ∧ a < p) → (a * zinv_t p a % p = 1 ∧ (1 ≤ zinv_t p a ∧ zinv_t p a < p) ∧ ∀ r ∈ List.range 31, r < p → a * r % p = 1 → r = zinv_t p a) := by decide +kernel
def zinv (a p : Int) : Int := a ^ (p - 2).toNat % p
theorem zinv_ok {a p : Int} (hp : zPr p) (h0 : 0 < a) (h1 : a < p) : a * zinv a p % p = 1 ∧ (1 ≤ zinv a p ∧ zinv a p < p) ∧ ∀ r : Int, 0 ≤ r → r < p → a * r % p = 1 → r = zinv a p := by
  obtain ⟨x, rfl⟩ := Int.eq_ofNat_of_zero_le (Int.le_of_lt h0)
  have hr := hp.rg
  obtain ⟨q, rfl⟩ := Int.eq_ofNat_of_zero_le (show (0 : Int) ≤ p by omega)
  have hq : q ∈ [2, 3, 5, 7, 11, 13, 17, 19, 23, 29, 31] := by
    unfold zPr at hp
    simp only [List.mem_cons]
    omega
  have hz : zinv (x : Int) (q : Int) = (zinv_t q x : Nat) := by
    unfold zinv zinv_t
    have e : ((q : Int) - 2).toNat = q - 2 := by omega
    rw [e]
    simp
  obtain ⟨g1, g2, g3⟩ := zinv_all q hq x (List.mem_range.mpr (by omega)) ⟨by omega, by omega⟩
  rw [hz]
  refine ⟨?_, ⟨by omega, by omega⟩, fun r hr0 hr1 h => ?_⟩
  · have := congrArg (fun n : Nat => (n : Int)) g1
    simpa using this
  · obtain ⟨y, rfl⟩ := Int.eq_ofNat_of_zero_le hr0
    have h3 : x * y % q = 1 := by
      have h4 : ((x * y % q : Nat) : Int) = 1 := by simpa using h
      omega
    rw [g3 y (List.mem_range.mpr (by omega)) (by omega) h3]

set_option maxRecDepth 100000 in
set_option maxHeartbeats 4000000 in
theorem sp_X2_isPrime {l : Launch} {L : Nat} {mem : zMem} {Q : zQ}  (n : Int) (hm : zPM mem) (k : ∀ (r : Int), ((r = 1 ∧ zPr n) ∨ (r = 0 ∧ ¬ zPr n)) → Q (some (zI r)) (zS L) mem) : zw_Ok l mm_X2_isPrime [zI n] (zS L) mem Q := by
  refine zw_okA (fun hA => ?_)
  have rg_n : -2147483648 ≤ n ∧ n < 2147483648 := hA.1
  refine zw_enter (by decide) (Nat.le_of_ble_eq_true rfl) rfl ?_
  show zw_Wp l mm_X2_isPrime (zS L) 0 [some (zI n), none, none, none, none] [] mem 0 0 Q
  unfold zPM at hm
  refine wp_gets dd_X2_isPrime_0 gs_X2_9 ?_
  refine wp_astore_n (ls2 := [some (zI n), some (zR 1000), none, none, none]) dd_X2_isPrime_3 rfl (by decide) rfl ?_
  refine wp_aload_n dd_X2_isPrime_4 rfl ?_
  refine wp_alenR dd_X2_isPrime_5 kk_1000 (by decide) (by omega) ?_
  show zw_Wp l mm_X2_isPrime (zS L) 6 [some (zI n), some (zR 1000), none, none, none] [zI 11] mem 0 0 Q
  refine wp_istore_n (ls2 := [some (zI n), some (zR 1000), some (zI 11), none, none]) dd_X2_isPrime_6 rfl (by decide) rfl ?_
  refine wp_iconst dd_X2_isPrime_7 (zr_lit rfl) ?_
  refine wp_istore_n (ls2 := [some (zI n), some (zR 1000), some (zI 11), some (zI 0), none]) dd_X2_isPrime_8 rfl (by decide) rfl ?_
  refine wp_iload_n dd_X2_isPrime_9 rfl ?_
  refine wp_iload_n dd_X2_isPrime_10 rfl ?_
  refine wp_icmp_ge (tgt := 33) dd_X2_isPrime_11 (by decide) (fun c11_1 => absurd c11_1 (by decide)) (fun c11_1 => ?_)
  refine wp_aload_n dd_X2_isPrime_14 rfl ?_
  refine wp_iload_n dd_X2_isPrime_15 rfl ?_
  refine wp_ialdR dd_X2_isPrime_16 kk_1000 (by decide) (by omega) (by omega) ?_
  refine wp_istore (ls2 := [some (zI n), some (zR 1000), some (zI 11), some (zI 0), some (zI (mem 1000 0))]) dd_X2_isPrime_17 rfl (by decide) rfl ?_
  refine wp_iload dd_X2_isPrime_19 rfl ?_
  refine wp_iload_n dd_X2_isPrime_21 rfl ?_
  refine wp_icmp_ne (tgt := 27) dd_X2_isPrime_22 (by decide) (fun c22_2 => ?_) (fun c22_2 => ?_)
  · skip
    refine wp_iincC (ls2 := [some (zI n), some (zR 1000), some (zI 11), some (zI 1), some (zI (mem 1000 0))]) dd_X2_isPrime_27 rfl rfl (by decide) (by omega) rfl ?_
    refine wp_goto (tgt := 9) dd_X2_isPrime_30 (by decide) ?_
    refine wp_iload_n dd_X2_isPrime_9 rfl ?_
    refine wp_iload_n dd_X2_isPrime_10 rfl ?_
    refine wp_icmp_ge (tgt := 33) dd_X2_isPrime_11 (by decide) (fun c11_3 => absurd c11_3 (by decide)) (fun c11_3 => ?_)
    refine wp_aload_n dd_X2_isPrime_14 rfl ?_
    refine wp_iload_n dd_X2_isPrime_15 rfl ?_
    refine wp_ialdR dd_X2_isPrime_16 kk_1000 (by decide) (by omega) (by omega) ?_
    refine wp_istore (ls2 := [some (zI n), some (zR 1000), some (zI 11), some (zI 1), some (zI (mem 1000 1))]) dd_X2_isPrime_17 rfl (by decide) rfl ?_
    refine wp_iload dd_X2_isPrime_19 rfl ?_
    refine wp_iload_n dd_X2_isPrime_21 rfl ?_
    refine wp_icmp_ne (tgt := 27) dd_X2_isPrime_22 (by decide) (fun c22_4 => ?_) (fun c22_4 => ?_)
    · skip
      refine wp_iincC (ls2 := [some (zI n), some (zR 1000), some (zI 11), some (zI 2), some (zI (mem 1000 1))]) dd_X2_isPrime_27 rfl rfl (by decide) (by omega) rfl ?_
      refine wp_goto (tgt := 9) dd_X2_isPrime_30 (by decide) ?_
      refine wp_iload_n dd_X2_isPrime_9 rfl ?_
      refine wp_iload_n dd_X2_isPrime_10 rfl ?_
      refine wp_icmp_ge (tgt := 33) dd_X2_isPrime_11 (by decide) (fun c11_5 => absurd c11_5 (by decide)) (fun c11_5 => ?_)
      refine wp_aload_n dd_X2_isPrime_14 rfl ?_
      refine wp_iload_n dd_X2_isPrime_15 rfl ?_
      refine wp_ialdR dd_X2_isPrime_16 kk_1000 (by decide) (by omega) (by omega) ?_
      refine wp_istore (ls2 := [some (zI n), some (zR 1000), some (zI 11), some (zI 2), some (zI (mem 1000 2))]) dd_X2_isPrime_17 rfl (by decide) rfl ?_
      refine wp_iload dd_X2_isPrime_19 rfl ?_
      refine wp_iload_n dd_X2_isPrime_21 rfl ?_
      refine wp_icmp_ne (tgt := 27) dd_X2_isPrime_22 (by decide) (fun c22_6 => ?_) (fun c22_6 => ?_)
      · skip
        refine wp_iincC (ls2 := [some (zI n), some (zR 1000), some (zI 11), some (zI 3), some (zI (mem 1000 2))]) dd_X2_isPrime_27 rfl rfl (by decide) (by omega) rfl ?_
        refine wp_goto (tgt := 9) dd_X2_isPrime_30 (by decide) ?_
        refine wp_iload_n dd_X2_isPrime_9 rfl ?_
        refine wp_iload_n dd_X2_isPrime_10 rfl ?_
        refine wp_icmp_ge (tgt := 33) dd_X2_isPrime_11 (by decide) (fun c11_7 => absurd c11_7 (by decide)) (fun c11_7 => ?_)
        refine wp_aload_n dd_X2_isPrime_14 rfl ?_
        refine wp_iload_n dd_X2_isPrime_15 rfl ?_
        refine wp_ialdR dd_X2_isPrime_16 kk_1000 (by decide) (by omega) (by omega) ?_
        refine wp_istore (ls2 := [some (zI n), some (zR 1000), some (zI 11), some (zI 3), some (zI (mem 1000 3))]) dd_X2_isPrime_17 rfl (by decide) rfl ?_
        refine wp_iload dd_X2_isPrime_19 rfl ?_
        refine wp_iload_n dd_X2_isPrime_21 rfl ?_
        refine wp_icmp_ne (tgt := 27) dd_X2_isPrime_22 (by decide) (fun c22_8 => ?_) (fun c22_8 => ?_)
        · skip
          refine wp_iincC (ls2 := [some (zI n), some (zR 1000), some (zI 11), some (zI 4), some (zI (mem 1000 3))]) dd_X2_isPrime_27 rfl rfl (by decide) (by omega) rfl ?_
          refine wp_goto (tgt := 9) dd_X2_isPrime_30 (by decide) ?_
          refine wp_iload_n dd_X2_isPrime_9 rfl ?_
          refine wp_iload_n dd_X2_isPrime_10 rfl ?_
          refine wp_icmp_ge (tgt := 33) dd_X2_isPrime_11 (by decide) (fun c11_9 => absurd c11_9 (by decide)) (fun c11_9 => ?_)
          refine wp_aload_n dd_X2_isPrime_14 rfl ?_
          refine wp_iload_n dd_X2_isPrime_15 rfl ?_
          refine wp_ialdR dd_X2_isPrime_16 kk_1000 (by decide) (by omega) (by omega) ?_
          refine wp_istore (ls2 := [some (zI n), some (zR 1000), some (zI 11), some (zI 4), some (zI (mem 1000 4))]) dd_X2_isPrime_17 rfl (by decide) rfl ?_
          refine wp_iload dd_X2_isPrime_19 rfl ?_
          refine wp_iload_n dd_X2_isPrime_21 rfl ?_
          refine wp_icmp_ne (tgt := 27) dd_X2_isPrime_22 (by decide) (fun c22_10 => ?_) (fun c22_10 => ?_)
          · skip
            refine wp_iincC (ls2 := [some (zI n), some (zR 1000), some (zI 11), some (zI 5), some (zI (mem 1000 4))]) dd_X2_isPrime_27 rfl rfl (by decide) (by omega) rfl ?_
            refine wp_goto (tgt := 9) dd_X2_isPrime_30 (by decide) ?_
            refine wp_iload_n dd_X2_isPrime_9 rfl ?_
            refine wp_iload_n dd_X2_isPrime_10 rfl ?_
            refine wp_icmp_ge (tgt := 33) dd_X2_isPrime_11 (by decide) (fun c11_11 => absurd c11_11 (by decide)) (fun c11_11 => ?_)
            refine wp_aload_n dd_X2_isPrime_14 rfl ?_
            refine wp_iload_n dd_X2_isPrime_15 rfl ?_
            refine wp_ialdR dd_X2_isPrime_16 kk_1000 (by decide) (by omega) (by omega) ?_
            refine wp_istore (ls2 := [some (zI n), some (zR 1000), some (zI 11), some (zI 5), some (zI (mem 1000 5))]) dd_X2_isPrime_17 rfl (by decide) rfl ?_
            refine wp_iload dd_X2_isPrime_19 rfl ?_
            refine wp_iload_n dd_X2_isPrime_21 rfl ?_
            refine wp_icmp_ne (tgt := 27) dd_X2_isPrime_22 (by decide) (fun c22_12 => ?_) (fun c22_12 => ?_)
            · skip
              refine wp_iincC (ls2 := [some (zI n), some (zR 1000), some (zI 11), some (zI 6), some (zI (mem 1000 5))]) dd_X2_isPrime_27 rfl rfl (by decide) (by omega) rfl ?_
              refine wp_goto (tgt := 9) dd_X2_isPrime_30 (by decide) ?_
              refine wp_iload_n dd_X2_isPrime_9 rfl ?_
              refine wp_iload_n dd_X2_isPrime_10 rfl ?_
              refine wp_icmp_ge (tgt := 33) dd_X2_isPrime_11 (by decide) (fun c11_13 => absurd c11_13 (by decide)) (fun c11_13 => ?_)
              refine wp_aload_n dd_X2_isPrime_14 rfl ?_
              refine wp_iload_n dd_X2_isPrime_15 rfl ?_
              refine wp_ialdR dd_X2_isPrime_16 kk_1000 (by decide) (by omega) (by omega) ?_
              refine wp_istore (ls2 := [some (zI n), some (zR 1000), some (zI 11), some (zI 6), some (zI (mem 1000 6))]) dd_X2_isPrime_17 rfl (by decide) rfl ?_
              refine wp_iload dd_X2_isPrime_19 rfl ?_
              refine wp_iload_n dd_X2_isPrime_21 rfl ?_
              refine wp_icmp_ne (tgt := 27) dd_X2_isPrime_22 (by decide) (fun c22_14 => ?_) (fun c22_14 => ?_)
              · skip
                refine wp_iincC (ls2 := [some (zI n), some (zR 1000), some (zI 11), some (zI 7), some (zI (mem 1000 6))]) dd_X2_isPrime_27 rfl rfl (by decide) (by omega) rfl ?_
                refine wp_goto (tgt := 9) dd_X2_isPrime_30 (by decide) ?_
                refine wp_iload_n dd_X2_isPrime_9 rfl ?_
                refine wp_iload_n dd_X2_isPrime_10 rfl ?_
                refine wp_icmp_ge (tgt := 33) dd_X2_isPrime_11 (by decide) (fun c11_15 => absurd c11_15 (by decide)) (fun c11_15 => ?_)
                refine wp_aload_n dd_X2_isPrime_14 rfl ?_
                refine wp_iload_n dd_X2_isPrime_15 rfl ?_
                refine wp_ialdR dd_X2_isPrime_16 kk_1000 (by decide) (by omega) (by omega) ?_
                refine wp_istore (ls2 := [some (zI n), some (zR 1000), some (zI 11), some (zI 7), some (zI (mem 1000 7))]) dd_X2_isPrime_17 rfl (by decide) rfl ?_
                refine wp_iload dd_X2_isPrime_19 rfl ?_
                refine wp_iload_n dd_X2_isPrime_21 rfl ?_
                refine wp_icmp_ne (tgt := 27) dd_X2_isPrime_22 (by decide) (fun c22_16 => ?_) (fun c22_16 => ?_)
                · skip
                  refine wp_iincC (ls2 := [some (zI n), some (zR 1000), some (zI 11), some (zI 8), some (zI (mem 1000 7))]) dd_X2_isPrime_27 rfl rfl (by decide) (by omega) rfl ?_
                  refine wp_goto (tgt := 9) dd_X2_isPrime_30 (by decide) ?_
                  refine wp_iload_n dd_X2_isPrime_9 rfl ?_
                  refine wp_iload_n dd_X2_isPrime_10 rfl ?_
                  refine wp_icmp_ge (tgt := 33) dd_X2_isPrime_11 (by decide) (fun c11_17 => absurd c11_17 (by decide)) (fun c11_17 => ?_)
                  refine wp_aload_n dd_X2_isPrime_14 rfl ?_
                  refine wp_iload_n dd_X2_isPrime_15 rfl ?_
                  refine wp_ialdR dd_X2_isPrime_16 kk_1000 (by decide) (by omega) (by omega) ?_
                  refine wp_istore (ls2 := [some (zI n), some (zR 1000), some (zI 11), some (zI 8), some (zI (mem 1000 8))]) dd_X2_isPrime_17 rfl (by decide) rfl ?_
                  refine wp_iload dd_X2_isPrime_19 rfl ?_
                  refine wp_iload_n dd_X2_isPrime_21 rfl ?_
                  refine wp_icmp_ne (tgt := 27) dd_X2_isPrime_22 (by decide) (fun c22_18 => ?_) (fun c22_18 => ?_)
                  · skip
                    refine wp_iincC (ls2 := [some (zI n), some (zR 1000), some (zI 11), some (zI 9), some (zI (mem 1000 8))]) dd_X2_isPrime_27 rfl rfl (by decide) (by omega) rfl ?_
                    refine wp_goto (tgt := 9) dd_X2_isPrime_30 (by decide) ?_
                    refine wp_iload_n dd_X2_isPrime_9 rfl ?_
                    refine wp_iload_n dd_X2_isPrime_10 rfl ?_
                    refine wp_icmp_ge (tgt := 33) dd_X2_isPrime_11 (by decide) (fun c11_19 => absurd c11_19 (by decide)) (fun c11_19 => ?_)
                    refine wp_aload_n dd_X2_isPrime_14 rfl ?_
                    refine wp_iload_n dd_X2_isPrime_15 rfl ?_
                    refine wp_ialdR dd_X2_isPrime_16 kk_1000 (by decide) (by omega) (by omega) ?_
                    refine wp_istore (ls2 := [some (zI n), some (zR 1000), some (zI 11), some (zI 9), some (zI (mem 1000 9))]) dd_X2_isPrime_17 rfl (by decide) rfl ?_
                    refine wp_iload dd_X2_isPrime_19 rfl ?_
                    refine wp_iload_n dd_X2_isPrime_21 rfl ?_
                    refine wp_icmp_ne (tgt := 27) dd_X2_isPrime_22 (by decide) (fun c22_20 => ?_) (fun c22_20 => ?_)
                    · skip
                      refine wp_iincC (ls2 := [some (zI n), some (zR 1000), some (zI 11), some (zI 10), some (zI (mem 1000 9))]) dd_X2_isPrime_27 rfl rfl (by decide) (by omega) rfl ?_
                      refine wp_goto (tgt := 9) dd_X2_isPrime_30 (by decide) ?_
                      refine wp_iload_n dd_X2_isPrime_9 rfl ?_
                      refine wp_iload_n dd_X2_isPrime_10 rfl ?_
                      refine wp_icmp_ge (tgt := 33) dd_X2_isPrime_11 (by decide) (fun c11_21 => absurd c11_21 (by decide)) (fun c11_21 => ?_)
                      refine wp_aload_n dd_X2_isPrime_14 rfl ?_
                      refine wp_iload_n dd_X2_isPrime_15 rfl ?_
                      refine wp_ialdR dd_X2_isPrime_16 kk_1000 (by decide) (by omega) (by omega) ?_
                      refine wp_istore (ls2 := [some (zI n), some (zR 1000), some (zI 11), some (zI 10), some (zI (mem 1000 10))]) dd_X2_isPrime_17 rfl (by decide) rfl ?_
                      refine wp_iload dd_X2_isPrime_19 rfl ?_
                      refine wp_iload_n dd_X2_isPrime_21 rfl ?_
                      refine wp_icmp_ne (tgt := 27) dd_X2_isPrime_22 (by decide) (fun c22_22 => ?_) (fun c22_22 => ?_)
                      · skip
                        refine wp_iincC (ls2 := [some (zI n), some (zR 1000), some (zI 11), some (zI 11), some (zI (mem 1000 10))]) dd_X2_isPrime_27 rfl rfl (by decide) (by omega) rfl ?_
                        refine wp_goto (tgt := 9) dd_X2_isPrime_30 (by decide) ?_
                        refine wp_iload_n dd_X2_isPrime_9 rfl ?_
                        refine wp_iload_n dd_X2_isPrime_10 rfl ?_
                        refine wp_icmp_ge (tgt := 33) dd_X2_isPrime_11 (by decide) (fun c11_23 => ?_) (fun c11_23 => absurd c11_23 (by decide))
                        refine wp_iconst dd_X2_isPrime_33 (zr_lit rfl) ?_
                        refine wp_zreturn (st := []) dd_X2_isPrime_34 rfl (by omega) ?_
                        exact k _ (Or.inr ⟨rfl, by unfold zPr; omega⟩)
                      · skip
                        refine wp_iconst dd_X2_isPrime_25 (zr_lit rfl) ?_
                        refine wp_zreturn (st := []) dd_X2_isPrime_26 rfl (by omega) ?_
                        exact k _ (Or.inl ⟨rfl, by unfold zPr; omega⟩)
                    · skip
                      refine wp_iconst dd_X2_isPrime_25 (zr_lit rfl) ?_
                      refine wp_zreturn (st := []) dd_X2_isPrime_26 rfl (by omega) ?_
                      exact k _ (Or.inl ⟨rfl, by unfold zPr; omega⟩)
                  · skip
                    refine wp_iconst dd_X2_isPrime_25 (zr_lit rfl) ?_
                    refine wp_zreturn (st := []) dd_X2_isPrime_26 rfl (by omega) ?_
                    exact k _ (Or.inl ⟨rfl, by unfold zPr; omega⟩)
                · skip
                  refine wp_iconst dd_X2_isPrime_25 (zr_lit rfl) ?_
                  refine wp_zreturn (st := []) dd_X2_isPrime_26 rfl (by omega) ?_
                  exact k _ (Or.inl ⟨rfl, by unfold zPr; omega⟩)
              · skip
                refine wp_iconst dd_X2_isPrime_25 (zr_lit rfl) ?_
                refine wp_zreturn (st := []) dd_X2_isPrime_26 rfl (by omega) ?_
                exact k _ (Or.inl ⟨rfl, by unfold zPr; omega⟩)
            · skip
              refine wp_iconst dd_X2_isPrime_25 (zr_lit rfl) ?_
              refine wp_zreturn (st := []) dd_X2_isPrime_26 rfl (by omega) ?_
              exact k _ (Or.inl ⟨rfl, by unfold zPr; omega⟩)
          · skip
            refine wp_iconst dd_X2_isPrime_25 (zr_lit rfl) ?_
            refine wp_zreturn (st := []) dd_X2_isPrime_26 rfl (by omega) ?_
            exact k _ (Or.inl ⟨rfl, by unfold zPr; omega⟩)
        · skip
          refine wp_iconst dd_X2_isPrime_25 (zr_lit rfl) ?_
          refine wp_zreturn (st := []) dd_X2_isPrime_26 rfl (by omega) ?_
          exact k _ (Or.inl ⟨rfl, by unfold zPr; omega⟩)
      · skip
        refine wp_iconst dd_X2_isPrime_25 (zr_lit rfl) ?_
        refine wp_zreturn (st := []) dd_X2_isPrime_26 rfl (by omega) ?_
        exact k _ (Or.inl ⟨rfl, by unfold zPr; omega⟩)
    · skip
      refine wp_iconst dd_X2_isPrime_25 (zr_lit rfl) ?_
      refine wp_zreturn (st := []) dd_X2_isPrime_26 rfl (by omega) ?_
      exact k _ (Or.inl ⟨rfl, by unfold zPr; omega⟩)
  · skip
    refine wp_iconst dd_X2_isPrime_25 (zr_lit rfl) ?_
    refine wp_zreturn (st := []) dd_X2_isPrime_26 rfl (by omega) ?_
    exact k _ (Or.inl ⟨rfl, by unfold zPr; omega⟩)

set_option maxRecDepth 100000 in
set_option maxHeartbeats 4000000 in
theorem sp_X2_power {l : Launch} {L : Nat} {mem : zMem} {Q : zQ}  (b : Int) (x : Int) (p : Int) (hb : 0 ≤ b ∧ b ≤ 31) (hx : 0 ≤ x ∧ x ≤ 31) (hp : 2 ≤ p ∧ p ≤ 31) (k : Q (some (zI (b ^ x.toNat % p))) (zS L) mem) : zw_Ok l mm_X2_power [zI b, zI x, zI p] (zS L) mem Q := by
  refine zw_okA (fun hA => ?_)
  have rg_b : -2147483648 ≤ b ∧ b < 2147483648 := hA.1
  have rg_x : -2147483648 ≤ x ∧ x < 2147483648 := hA.2.1
  have rg_p : -2147483648 ≤ p ∧ p < 2147483648 := hA.2.2.1
  refine zw_enter (by decide) (Nat.le_of_ble_eq_true rfl) rfl ?_
  show zw_Wp l mm_X2_power (zS L) 0 [some (zI b), some (zI x), some (zI p), none, none] [] mem 0 0 Q
  refine wp_iconst dd_X2_power_0 (zr_lit rfl) ?_
  refine wp_istore_n (ls2 := [some (zI b), some (zI x), some (zI p), some (zI 1), none]) dd_X2_power_1 rfl (by decide) rfl ?_
  refine wp_iconst dd_X2_power_2 (zr_lit rfl) ?_
  refine wp_istore (ls2 := [some (zI b), some (zI x), some (zI p), some (zI 1), some (zI 0)]) dd_X2_power_3 rfl (by decide) rfl ?_
  have lp5 : ∀ (nf : Nat) (w : Int) (i : Int), (0 ≤ i) → (i ≤ x) → (w = b ^ i.toNat % p) → (x - i) < (nf : Int) → zw_Wp l mm_X2_power (zS L) 5 [some (zI b), some (zI x), some (zI p), some (zI w), some (zI i)] [] mem 0 0 Q := by
    intro nf
    induction nf with
    | zero =>
      intro w i h0 h1 h2 hmu
      exfalso; omega
    | succ nf ih5 =>
      intro w i h0 h1 h2 hmu
      have hw : 0 ≤ w ∧ w < p := by rw [h2]; exact zm_rg (by omega)
      have hwb := zmul_rg (a := w) (b := b) (A := 31) (B := 31) (by omega) (by omega) (by omega) (by omega)
      refine wp_iload dd_X2_power_5 rfl ?_
      refine wp_iload_n dd_X2_power_7 rfl ?_
      refine wp_icmp_ge (tgt := 23) dd_X2_power_8 (by decide) (fun c8_1 => ?_) (fun c8_1 => ?_)
      · skip
        refine wp_iload_n dd_X2_power_23 rfl ?_
        refine wp_ireturn (st := []) dd_X2_power_24 rfl ?_
        refine zq_I ?_ ?_ k
        · have e : i = x := by omega
          rw [h2, e]
        · rfl
      · skip
        refine wp_iload_n dd_X2_power_11 rfl ?_
        refine wp_iload_n dd_X2_power_12 rfl ?_
        refine wp_imulC dd_X2_power_13 (by omega) ?_
        refine wp_iload_n dd_X2_power_14 rfl ?_
        refine wp_iremP dd_X2_power_15 (by omega) (by omega) ?_
        refine wp_istore_n (ls2 := [some (zI b), some (zI x), some (zI p), some (zI ((w * b) % p)), some (zI i)]) dd_X2_power_16 rfl (by decide) rfl ?_
        refine wp_iincC (ls2 := [some (zI b), some (zI x), some (zI p), some (zI ((w * b) % p)), some (zI (i + 1))]) dd_X2_power_17 rfl rfl (by decide) (by omega) rfl ?_
        refine wp_goto (tgt := 5) dd_X2_power_20 (by decide) ?_
        refine ih5 ((w * b) % p) (i + 1) ?_ ?_ ?_ ?_
        · first | omega | assumption | (intros; omega)
        · first | omega | assumption | (intros; omega)
        · have e : (i + 1).toNat = i.toNat + 1 := by omega
          rw [e, Int.pow_succ, h2, zm_mul]
        · omega
  refine lp5 ((x - 0 : Int)).toNat.succ 1 0 ?_ ?_ ?_ ?_
  · first | omega | assumption | (intros; omega)
  · first | omega | assumption | (intros; omega)
  · show (1 : Int) = b ^ 0 % p; rw [Int.pow_zero, Int.emod_eq_of_lt (by omega) (by omega)]
  · omega

set_option maxRecDepth 100000 in
set_option maxHeartbeats 4000000 in
theorem sp_X2_inverse {l : Launch} {L : Nat} {mem : zMem} {Q : zQ}  (a : Int) (p : Int) (hp : zPr p) (ha : 0 < a ∧ a < p) (k : Q (some (zI (zinv a p))) (zS L) mem) : zw_Ok l mm_X2_inverse [zI a, zI p] (zS L) mem Q := by
  refine zw_okA (fun hA => ?_)
  have rg_a : -2147483648 ≤ a ∧ a < 2147483648 := hA.1
  have rg_p : -2147483648 ≤ p ∧ p < 2147483648 := hA.2.1
  refine zw_enter (by decide) (Nat.le_of_ble_eq_true rfl) rfl ?_
  show zw_Wp l mm_X2_inverse (zS L) 0 [some (zI a), some (zI p), none] [] mem 0 0 Q
  have hr := hp.rg
  obtain ⟨g1, g2, g3⟩ := zinv_ok hp ha.1 ha.2
  refine wp_iconst dd_X2_inverse_0 (zr_lit rfl) ?_
  refine wp_istore_n (ls2 := [some (zI a), some (zI p), some (zI 1)]) dd_X2_inverse_1 rfl (by decide) rfl ?_
  have lp2 : ∀ (nf : Nat) (t : Int), (1 ≤ t) → (t ≤ p) → (∀ r : Int, 1 ≤ r → r < t → a * r % p ≠ 1) → (p - t) < (nf : Int) → zw_Wp l mm_X2_inverse (zS L) 2 [some (zI a), some (zI p), some (zI t)] [] mem 0 0 Q := by
    intro nf
    induction nf with
    | zero =>
      intro t h0 h1 h2 hmu
      exfalso; omega
    | succ nf ih2 =>
      intro t h0 h1 h2 hmu
      have hat := zmul_rg (a := a) (b := t) (A := 31) (B := 31) (by omega) (by omega) (by omega) (by omega)
      refine wp_iload_n dd_X2_inverse_2 rfl ?_
      refine wp_iload_n dd_X2_inverse_3 rfl ?_
      refine wp_icmp_ge (tgt := 24) dd_X2_inverse_4 (by decide) (fun c4_1 => ?_) (fun c4_1 => ?_)
      · skip
        refine wp_iconst dd_X2_inverse_24 (zr_lit rfl) ?_
        refine wp_ireturn (st := []) dd_X2_inverse_25 rfl ?_
        refine zq_I ?_ ?_ k
        · exact absurd g1 (h2 _ g2.1 (by omega))
        · rfl
      · skip
        refine wp_iload_n dd_X2_inverse_7 rfl ?_
        refine wp_iload_n dd_X2_inverse_8 rfl ?_
        refine wp_imulC dd_X2_inverse_9 (by omega) ?_
        refine wp_iload_n dd_X2_inverse_10 rfl ?_
        refine wp_iremP dd_X2_inverse_11 (by omega) (by omega) ?_
        refine wp_iconst dd_X2_inverse_12 (zr_lit rfl) ?_
        refine wp_icmp_ne (tgt := 18) dd_X2_inverse_13 (by decide) (fun c13_2 => ?_) (fun c13_2 => ?_)
        · skip
          refine wp_iincC (ls2 := [some (zI a), some (zI p), some (zI (t + 1))]) dd_X2_inverse_18 rfl rfl (by decide) (by omega) rfl ?_
          refine wp_goto (tgt := 2) dd_X2_inverse_21 (by decide) ?_
          refine ih2 (t + 1) ?_ ?_ ?_ ?_
          · first | omega | assumption | (intros; omega)
          · first | omega | assumption | (intros; omega)
          · intro r q1 q2
            by_cases hrt : r = t
            · subst hrt; assumption
            · exact h2 r q1 (by omega)
          · omega
        · skip
          refine wp_iload_n dd_X2_inverse_16 rfl ?_
          refine wp_ireturn (st := []) dd_X2_inverse_17 rfl ?_
          refine zq_I ?_ ?_ k
          · exact g3 t (by omega) (by omega) (by assumption)
          · rfl
  refine lp2 ((p - 1 : Int)).toNat.succ 1 ?_ ?_ ?_ ?_
  · first | omega | assumption | (intros; omega)
  · first | omega | assumption | (intros; omega)
  · intro r h1 h2; omega
  · omega

set_option maxRecDepth 100000 in
set_option maxHeartbeats 4000000 in
theorem sp_X2_valueAt {l : Launch} {L : Nat} {mem : zMem} {Q : zQ} {n : Nat} (o : Nat) (v : Int) (p : Int) (hk : (zS L).2.1 o = (0, n)) (hi : o < (zS L).1) (hn : n < 100000) (hp : 2 ≤ p ∧ p ≤ 31) (hv : 0 ≤ v ∧ v ≤ 31) (hf : ∀ j : Int, 0 ≤ j → j < n → 0 ≤ mem o j ∧ mem o j ≤ 31) (k : Q (some (zI (zhr (mem o) v p n n))) (zS L) mem) : zw_Ok l mm_X2_valueAt [zR o, zI v, zI p] (zS L) mem Q := by
  refine zw_okA (fun hA => ?_)
  have rg_v : -2147483648 ≤ v ∧ v < 2147483648 := hA.2.1
  have rg_p : -2147483648 ≤ p ∧ p < 2147483648 := hA.2.2.1
  refine zw_enter (by decide) (Nat.le_of_ble_eq_true rfl) rfl ?_
  show zw_Wp l mm_X2_valueAt (zS L) 0 [some (zR o), some (zI v), some (zI p), none, none] [] mem 0 0 Q
  refine wp_iconst dd_X2_valueAt_0 (zr_lit rfl) ?_
  refine wp_istore_n (ls2 := [some (zR o), some (zI v), some (zI p), some (zI 0), none]) dd_X2_valueAt_1 rfl (by decide) rfl ?_
  refine wp_aload_n dd_X2_valueAt_2 rfl ?_
  refine wp_alen dd_X2_valueAt_3 hk hi (by omega) ?_
  show zw_Wp l mm_X2_valueAt (zS L) 4 [some (zR o), some (zI v), some (zI p), some (zI 0), none] [zI (n : Int)] mem 0 0 Q
  refine wp_iconst dd_X2_valueAt_4 (zr_lit rfl) ?_
  refine wp_isubC dd_X2_valueAt_5 (by omega) ?_
  refine wp_istore (ls2 := [some (zR o), some (zI v), some (zI p), some (zI 0), some (zI ((n : Int) - 1))]) dd_X2_valueAt_6 rfl (by decide) rfl ?_
  have lp8 : ∀ (nf : Nat) (w : Int) (i : Int), (-1 ≤ i) → (i < n) → (w = zhr (mem o) v p n (n - 1 - i).toNat) → (i + 1) < (nf : Int) → zw_Wp l mm_X2_valueAt (zS L) 8 [some (zR o), some (zI v), some (zI p), some (zI w), some (zI i)] [] mem 0 0 Q := by
    intro nf
    induction nf with
    | zero =>
      intro w i h0 h1 h2 hmu
      exfalso; omega
    | succ nf ih8 =>
      intro w i h0 h1 h2 hmu
      have hw : 0 ≤ w ∧ w < p := by rw [h2]; exact zhr_rg (by omega) _
      have hwv := zmul_rg (a := w) (b := v) (A := 31) (B := 31) (by omega) (by omega) (by omega) (by omega)
      refine wp_iload dd_X2_valueAt_8 rfl ?_
      refine wp_if_lt (tgt := 30) dd_X2_valueAt_10 (by decide) (fun c10_1 => ?_) (fun c10_1 => ?_)
      · skip
        refine wp_iload_n dd_X2_valueAt_30 rfl ?_
        refine wp_ireturn (st := []) dd_X2_valueAt_31 rfl ?_
        refine zq_I ?_ ?_ k
        · have e : ((n : Int) - 1 - i).toNat = n := by omega
          rw [h2, e]
        · rfl
      · skip
        refine wp_iload_n dd_X2_valueAt_13 rfl ?_
        refine wp_iload_n dd_X2_valueAt_14 rfl ?_
        refine wp_imulC dd_X2_valueAt_15 (by omega) ?_
        refine wp_aload_n dd_X2_valueAt_16 rfl ?_
        refine wp_iload dd_X2_valueAt_17 rfl ?_
        refine wp_iald dd_X2_valueAt_19 hk hi (by omega) (by omega) ?_
        have hm := hf i (by omega) (by omega)
        refine wp_iaddC dd_X2_valueAt_20 (by omega) ?_
        refine wp_iload_n dd_X2_valueAt_21 rfl ?_
        refine wp_iremP dd_X2_valueAt_22 (by omega) (by omega) ?_
        refine wp_istore_n (ls2 := [some (zR o), some (zI v), some (zI p), some (zI (((w * v) + (mem o i)) % p)), some (zI i)]) dd_X2_valueAt_23 rfl (by decide) rfl ?_
        refine wp_iincC (ls2 := [some (zR o), some (zI v), some (zI p), some (zI (((w * v) + (mem o i)) % p)), some (zI (i + (-1)))]) dd_X2_valueAt_24 rfl rfl (by decide) (by omega) rfl ?_
        refine wp_goto (tgt := 8) dd_X2_valueAt_27 (by decide) ?_
        refine ih8 (((w * v) + (mem o i)) % p) (i + (-1)) ?_ ?_ ?_ ?_
        · first | omega | assumption | (intros; omega)
        · first | omega | assumption | (intros; omega)
        · have e : ((n : Int) - 1 - (i + (-1))).toNat = ((n : Int) - 1 - i).toNat + 1 := by omega
          have e2 : (n : Int) - 1 - (((n : Int) - 1 - i).toNat : Nat) = i := by omega
          rw [e, h2]
          show _ = (zhr (mem o) v p n _ * v + mem o _) % p
          rw [e2]
        · omega
  refine lp8 ((((n : Int) - 1) + 1 : Int)).toNat.succ 0 ((n : Int) - 1) ?_ ?_ ?_ ?_
  · first | omega | assumption | (intros; omega)
  · first | omega | assumption | (intros; omega)
  · have e : ((n : Int) - 1 - ((n : Int) - 1)).toNat = 0 := by omega
    rw [e]; rfl
  · omega

