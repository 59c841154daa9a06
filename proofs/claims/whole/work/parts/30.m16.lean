section M16
variable {G : wG} {m : Nat} {F : Nat → Int32} {tl : Int64} {R : Nat → Nat → Int32} {NL : Nat → Int64} {h0 : Nat → Option wE} {sz : Nat}

set_option maxHeartbeats 4000000 in
theorem c9_closes5F {x : Int32} {b : Nat → Int32} {L p cd k e : Nat} (hb : R 0 = b) (hL : x = nI L) (hL2 : L ≤ 300) (hp : p ≤ L) (T : tokS b L p F tl) (hw : F 7 = 0) (hk : F 14 = nI k) (hk199 : k < 199) (hd : F 33 = nI (e + 1)) (he : e < 5) (hcd : R 35 (e + 1) = nI cd) (hcd2 : cd < 200) (hq : R 34 (e + 1) = 5) (hh : R 38 (e + 1) = 0) : Sat G mX9_closes [.ref m, .int x] (mh m F tl R NL h0, sz) (Det none (mh m (upd (upd F 7 5) 8 (F 3)) tl R NL h0, sz)) := by
  refine Sat.of (by decide) [some (.ref m), some (.int x), none, none, none, none] rfl rfl (fun X => ?_)
  refine ww_aload_n dX9_closes_0 rfl rfl ?_
  refine mm_geti dX9_closes_1 fX9_251 rfl rfl ?_
  refine ww_istore_n dX9_closes_4 rfl rfl rfl ?_
  refine ww_aload_n dX9_closes_5 rfl rfl ?_
  refine mm_getr dX9_closes_6 fX9_82 rfl ?_
  refine ww_iload_n dX9_closes_9 rfl rfl ?_
  refine mm_zald dX9_closes_10 rfl hd (by omega) rfl rfl ?_
  refine ww_istore_n dX9_closes_11 rfl rfl rfl ?_
  refine ww_aload_n dX9_closes_12 rfl rfl ?_
  refine mm_getr dX9_closes_13 fX9_73 rfl ?_
  refine ww_iload_n dX9_closes_16 rfl rfl ?_
  refine mm_iald dX9_closes_17 rfl hd (by omega) rfl rfl ?_
  refine ww_istore dX9_closes_18 rfl rfl ?_
  refine ww_aload_n dX9_closes_20 rfl rfl ?_
  refine mm_getr dX9_closes_21 fX9_70 rfl ?_
  refine ww_iload_n dX9_closes_24 rfl rfl ?_
  refine mm_iald dX9_closes_25 rfl hd (by omega) rfl rfl ?_
  refine ww_iconst (v := 5) dX9_closes_26 (by decide) ?_
  refine ww_icmp_ne (tgt := 40) dX9_closes_27 (by decide) (fun c27 => ?_) (fun c27 => ?_)
  · exact absurd c27 (fun q => q hq)
  · refine ww_iload_n dX9_closes_30 rfl rfl ?_
    refine ww_if_ne (tgt := 40) dX9_closes_31 (by decide) (fun c31 => ?_) (fun c31 => ?_)
    · exact absurd c31 (fun q => q hh)
    · refine ww_aload_n dX9_closes_34 rfl rfl ?_
      refine ww_iconst (v := 5) dX9_closes_35 (by decide) ?_
      refine mm_call0 dX9_closes_36 kX9_236 rfl (a9_fails hw) rfl rfl rfl rfl rfl rfl (Nat.zero_le _) (Nat.zero_le _) ?_
      exact ww_vret dX9_closes_39 rfl ⟨rfl, rfl⟩ (Nat.zero_le _) (Nat.zero_le _)
set_option maxHeartbeats 4000000 in
theorem c9_closes5 {x : Int32} {b : Nat → Int32} {L p cd k e : Nat} (hb : R 0 = b) (hL : x = nI L) (hL2 : L ≤ 300) (hp : p ≤ L) (T : tokS b L p F tl) (hw : F 7 = 0) (hk : F 14 = nI k) (hk199 : k < 199) (hd : F 33 = nI (e + 1)) (he : e < 5) (hcd : R 35 (e + 1) = nI cd) (hcd2 : cd < 200) (hq : R 34 (e + 1) = 5) (hh : ¬ R 38 (e + 1) = 0) : Sat G mX9_closes [.ref m, .int x] (mh m F tl R NL h0, sz) (Det none (mh m (upd (upd (nxF b L (ad b L p) F) 33 (nI e)) 14 (nI (k + 1))) (nxT b L (ad b L p)) (va_up (va_up (emR R k 4 (R 36 (e + 1)) (R 37 (e + 1))) 18 (upd (emR R k 4 (R 36 (e + 1)) (R 37 (e + 1)) 18) k (nI cd))) 38 (upd (R 38) e 1)) NL h0, sz)) := by
  refine Sat.of (by decide) [some (.ref m), some (.int x), none, none, none, none] rfl rfl (fun X => ?_)
  have hde : F 33 - 1 = nI e := by rw [hd]; exact nI_pred e
  refine ww_aload_n dX9_closes_0 rfl rfl ?_
  refine mm_geti dX9_closes_1 fX9_251 rfl rfl ?_
  refine ww_istore_n dX9_closes_4 rfl rfl rfl ?_
  refine ww_aload_n dX9_closes_5 rfl rfl ?_
  refine mm_getr dX9_closes_6 fX9_82 rfl ?_
  refine ww_iload_n dX9_closes_9 rfl rfl ?_
  refine mm_zald dX9_closes_10 rfl hd (by omega) rfl rfl ?_
  refine ww_istore_n dX9_closes_11 rfl rfl rfl ?_
  refine ww_aload_n dX9_closes_12 rfl rfl ?_
  refine mm_getr dX9_closes_13 fX9_73 rfl ?_
  refine ww_iload_n dX9_closes_16 rfl rfl ?_
  refine mm_iald dX9_closes_17 rfl hd (by omega) rfl rfl ?_
  refine ww_istore dX9_closes_18 rfl rfl ?_
  refine ww_aload_n dX9_closes_20 rfl rfl ?_
  refine mm_getr dX9_closes_21 fX9_70 rfl ?_
  refine ww_iload_n dX9_closes_24 rfl rfl ?_
  refine mm_iald dX9_closes_25 rfl hd (by omega) rfl rfl ?_
  refine ww_iconst (v := 5) dX9_closes_26 (by decide) ?_
  refine ww_icmp_ne (tgt := 40) dX9_closes_27 (by decide) (fun c27 => ?_) (fun c27 => ?_)
  · exact absurd c27 (fun q => q hq)
  · refine ww_iload_n dX9_closes_30 rfl rfl ?_
    refine ww_if_ne (tgt := 40) dX9_closes_31 (by decide) (fun c31 => ?_) (fun c31 => ?_)
    · refine ww_aload_n dX9_closes_40 rfl rfl ?_
      refine ww_iload_n dX9_closes_41 rfl rfl ?_
      refine mm_call0 dX9_closes_42 kX9_233 rfl (a9_next (p := ad b L p) (by exact hb) hL hL2 (by exact T.1) (ad_le hp).2) rfl rfl rfl rfl rfl rfl (Nat.zero_le _) (Nat.zero_le _) ?_
      refine ww_aload_n dX9_closes_45 rfl rfl ?_
      refine ww_dup dX9_closes_46 rfl ?_
      refine mm_geti dX9_closes_47 fX9_251 rfl rfl ?_
      refine ww_iconst (v := 1) dX9_closes_50 (by decide) ?_
      refine ww_isub dX9_closes_51 ?_
      refine mm_puti dX9_closes_52 fX9_251 rfl rfl ?_
      refine ww_aload_n dX9_closes_55 rfl rfl ?_
      refine mm_getr dX9_closes_56 fX9_70 rfl ?_
      refine ww_iload_n dX9_closes_59 rfl rfl ?_
      refine mm_iald dX9_closes_60 rfl hd (by omega) rfl rfl ?_
      refine ww_table [92, 148, 233, 280] 333 dX9_closes_61 (by decide) (by decide) (by decide) (fun j61 t61 ht61 c61 => ?_) (fun c61 => ?_)
      · rcases j61 with _ | _ | _ | _ | j
        · cases ht61
          rw [hq] at c61
          exact absurd c61 (by decide)
        · cases ht61
          rw [hq] at c61
          exact absurd c61 (by decide)
        · cases ht61
          rw [hq] at c61
          exact absurd c61 (by decide)
        · cases ht61
          rw [hq] at c61
          exact absurd c61 (by decide)
        · cases ht61
      · refine ww_aload_n dX9_closes_333 rfl rfl ?_
        refine ww_iconst (v := 4) dX9_closes_334 (by decide) ?_
        refine ww_aload_n dX9_closes_335 rfl rfl ?_
        refine mm_getr dX9_closes_336 fX9_76 rfl ?_
        refine ww_iload_n dX9_closes_339 rfl rfl ?_
        refine mm_iald dX9_closes_340 rfl hd (by omega) rfl rfl ?_
        refine ww_aload_n dX9_closes_341 rfl rfl ?_
        refine mm_getr dX9_closes_342 fX9_79 rfl ?_
        refine ww_iload_n dX9_closes_345 rfl rfl ?_
        refine mm_iald dX9_closes_346 rfl hd (by omega) rfl rfl ?_
        refine mm_call1 dX9_closes_347 kX9_268 rfl (c9_emits (k := k) (by exact hk) (by omega)) rfl rfl rfl rfl rfl rfl (Nat.zero_le _) (Nat.zero_le _) ?_
        refine ww_istore dX9_closes_350 rfl rfl ?_
        refine ww_aload_n dX9_closes_352 rfl rfl ?_
        refine mm_getr dX9_closes_353 fX9_30 rfl ?_
        refine ww_iload dX9_closes_356 rfl ?_
        refine ww_iload dX9_closes_358 rfl ?_
        refine mm_iast dX9_closes_360 rfl (show nI k = nI k from rfl) (by omega) rfl rfl ?_
        refine ww_aload_n dX9_closes_361 rfl rfl ?_
        refine mm_getr dX9_closes_362 fX9_82 rfl ?_
        refine ww_aload_n dX9_closes_365 rfl rfl ?_
        refine mm_geti dX9_closes_366 fX9_251 rfl rfl ?_
        refine ww_iconst (v := 1) dX9_closes_369 (by decide) ?_
        refine mm_zast dX9_closes_370 rfl (show _ = nI e by exact hde) (by omega) rfl rfl ?_
        refine ww_goto (tgt := 374) dX9_closes_371 (by decide) ?_
        exact ww_vret dX9_closes_374 rfl ⟨rfl, by rw [show upd (nxF b L (ad b L p) F) 33 (nxF b L (ad b L p) F 33 - 1) = upd (nxF b L (ad b L p) F) 33 (nI e) from congrArg (upd _ 33) hde, hcd]; rfl⟩ (Nat.zero_le _) (Nat.zero_le _)
    · exact absurd c31 hh
set_option maxHeartbeats 4000000 in
theorem c9_closes4 {x : Int32} {b : Nat → Int32} {L p cd k e : Nat} (hb : R 0 = b) (hL : x = nI L) (hL2 : L ≤ 300) (hp : p ≤ L) (T : tokS b L p F tl) (hw : F 7 = 0) (hk : F 14 = nI k) (hk199 : k < 199) (hd : F 33 = nI (e + 1)) (he : e < 5) (hcd : R 35 (e + 1) = nI cd) (hcd2 : cd < 200) (hq : R 34 (e + 1) = 4) : Sat G mX9_closes [.ref m, .int x] (mh m F tl R NL h0, sz) (Det none (mh m (upd (nxF b L (ad b L p) F) 33 (nI e)) (nxT b L (ad b L p)) (va_up (va_up R 18 (upd (R 18) cd (F 14))) 38 (upd (R 38) e (wb (!decide (R 38 e = 0) || (!decide (R 38 (e + 1) = 0) && !decide (R 39 (e + 1) = 0)))))) NL h0, sz)) := by
  refine Sat.of (by decide) [some (.ref m), some (.int x), none, none, none, none] rfl rfl (fun X => ?_)
  have hde : F 33 - 1 = nI e := by rw [hd]; exact nI_pred e
  refine ww_aload_n dX9_closes_0 rfl rfl ?_
  refine mm_geti dX9_closes_1 fX9_251 rfl rfl ?_
  refine ww_istore_n dX9_closes_4 rfl rfl rfl ?_
  refine ww_aload_n dX9_closes_5 rfl rfl ?_
  refine mm_getr dX9_closes_6 fX9_82 rfl ?_
  refine ww_iload_n dX9_closes_9 rfl rfl ?_
  refine mm_zald dX9_closes_10 rfl hd (by omega) rfl rfl ?_
  refine ww_istore_n dX9_closes_11 rfl rfl rfl ?_
  refine ww_aload_n dX9_closes_12 rfl rfl ?_
  refine mm_getr dX9_closes_13 fX9_73 rfl ?_
  refine ww_iload_n dX9_closes_16 rfl rfl ?_
  refine mm_iald dX9_closes_17 rfl hd (by omega) rfl rfl ?_
  refine ww_istore dX9_closes_18 rfl rfl ?_
  refine ww_aload_n dX9_closes_20 rfl rfl ?_
  refine mm_getr dX9_closes_21 fX9_70 rfl ?_
  refine ww_iload_n dX9_closes_24 rfl rfl ?_
  refine mm_iald dX9_closes_25 rfl hd (by omega) rfl rfl ?_
  refine ww_iconst (v := 5) dX9_closes_26 (by decide) ?_
  refine ww_icmp_ne (tgt := 40) dX9_closes_27 (by decide) (fun c27 => ?_) (fun c27 => ?_)
  · refine ww_aload_n dX9_closes_40 rfl rfl ?_
    refine ww_iload_n dX9_closes_41 rfl rfl ?_
    refine mm_call0 dX9_closes_42 kX9_233 rfl (a9_next (p := ad b L p) (by exact hb) hL hL2 (by exact T.1) (ad_le hp).2) rfl rfl rfl rfl rfl rfl (Nat.zero_le _) (Nat.zero_le _) ?_
    refine ww_aload_n dX9_closes_45 rfl rfl ?_
    refine ww_dup dX9_closes_46 rfl ?_
    refine mm_geti dX9_closes_47 fX9_251 rfl rfl ?_
    refine ww_iconst (v := 1) dX9_closes_50 (by decide) ?_
    refine ww_isub dX9_closes_51 ?_
    refine mm_puti dX9_closes_52 fX9_251 rfl rfl ?_
    refine ww_aload_n dX9_closes_55 rfl rfl ?_
    refine mm_getr dX9_closes_56 fX9_70 rfl ?_
    refine ww_iload_n dX9_closes_59 rfl rfl ?_
    refine mm_iald dX9_closes_60 rfl hd (by omega) rfl rfl ?_
    refine ww_table [92, 148, 233, 280] 333 dX9_closes_61 (by decide) (by decide) (by decide) (fun j61 t61 ht61 c61 => ?_) (fun c61 => ?_)
    · rcases j61 with _ | _ | _ | _ | j
      · cases ht61
        rw [hq] at c61
        exact absurd c61 (by decide)
      · cases ht61
        rw [hq] at c61
        exact absurd c61 (by decide)
      · cases ht61
        rw [hq] at c61
        exact absurd c61 (by decide)
      · cases ht61
        refine ww_aload_n dX9_closes_280 rfl rfl ?_
        refine mm_getr dX9_closes_281 fX9_30 rfl ?_
        refine ww_iload dX9_closes_284 rfl ?_
        refine ww_aload_n dX9_closes_286 rfl rfl ?_
        refine mm_geti dX9_closes_287 fX9_244 rfl rfl ?_
        refine mm_iast dX9_closes_290 rfl hcd (by omega) rfl rfl ?_
        refine ww_aload_n dX9_closes_291 rfl rfl ?_
        refine mm_getr dX9_closes_292 fX9_82 rfl ?_
        refine ww_aload_n dX9_closes_295 rfl rfl ?_
        refine mm_geti dX9_closes_296 fX9_251 rfl rfl ?_
        refine ww_aload_n dX9_closes_299 rfl rfl ?_
        refine mm_getr dX9_closes_300 fX9_82 rfl ?_
        refine ww_aload_n dX9_closes_303 rfl rfl ?_
        refine mm_geti dX9_closes_304 fX9_251 rfl rfl ?_
        refine mm_zald dX9_closes_307 rfl (show _ = nI e by exact hde) (by omega) rfl rfl ?_
        refine ww_if_ne (tgt := 324) dX9_closes_308 (by decide) (fun c308 => ?_) (fun c308 => ?_)
        · refine ww_iconst (v := 1) dX9_closes_324 (by decide) ?_
          refine ww_goto (tgt := 329) dX9_closes_325 (by decide) ?_
          refine mm_zast dX9_closes_329 rfl (show _ = nI e by exact hde) (by omega) rfl rfl ?_
          refine ww_goto (tgt := 374) dX9_closes_330 (by decide) ?_
          exact ww_vret dX9_closes_374 rfl ⟨rfl, by rw [show upd (nxF b L (ad b L p) F) 33 (nxF b L (ad b L p) F 33 - 1) = upd (nxF b L (ad b L p) F) 33 (nI e) from congrArg (upd _ 33) hde, show (wb (!decide (R 38 e = 0) || (!decide (R 38 (e + 1) = 0) && !decide (R 39 (e + 1) = 0)))) = 1 by simp [wb, show ¬ R 38 e = 0 from c308]]; rfl⟩ (Nat.zero_le _) (Nat.zero_le _)
        · refine ww_iload_n dX9_closes_311 rfl rfl ?_
          refine ww_if_eq (tgt := 328) dX9_closes_312 (by decide) (fun c312 => ?_) (fun c312 => ?_)
          · refine ww_iconst (v := 0) dX9_closes_328 (by decide) ?_
            refine mm_zast dX9_closes_329 rfl (show _ = nI e by exact hde) (by omega) rfl rfl ?_
            refine ww_goto (tgt := 374) dX9_closes_330 (by decide) ?_
            exact ww_vret dX9_closes_374 rfl ⟨rfl, by rw [show upd (nxF b L (ad b L p) F) 33 (nxF b L (ad b L p) F 33 - 1) = upd (nxF b L (ad b L p) F) 33 (nI e) from congrArg (upd _ 33) hde, show (wb (!decide (R 38 e = 0) || (!decide (R 38 (e + 1) = 0) && !decide (R 39 (e + 1) = 0)))) = 0 by simp [wb, show R 38 e = 0 from c308, show R 38 (e + 1) = 0 from c312]]; rfl⟩ (Nat.zero_le _) (Nat.zero_le _)
          · refine ww_aload_n dX9_closes_315 rfl rfl ?_
            refine mm_getr dX9_closes_316 fX9_86 rfl ?_
            refine ww_iload_n dX9_closes_319 rfl rfl ?_
            refine mm_zald dX9_closes_320 rfl hd (by omega) rfl rfl ?_
            refine ww_if_eq (tgt := 328) dX9_closes_321 (by decide) (fun c321 => ?_) (fun c321 => ?_)
            · refine ww_iconst (v := 0) dX9_closes_328 (by decide) ?_
              refine mm_zast dX9_closes_329 rfl (show _ = nI e by exact hde) (by omega) rfl rfl ?_
              refine ww_goto (tgt := 374) dX9_closes_330 (by decide) ?_
              exact ww_vret dX9_closes_374 rfl ⟨rfl, by rw [show upd (nxF b L (ad b L p) F) 33 (nxF b L (ad b L p) F 33 - 1) = upd (nxF b L (ad b L p) F) 33 (nI e) from congrArg (upd _ 33) hde, show (wb (!decide (R 38 e = 0) || (!decide (R 38 (e + 1) = 0) && !decide (R 39 (e + 1) = 0)))) = 0 by simp [wb, show R 38 e = 0 from c308, show R 39 (e + 1) = 0 from c321]]; rfl⟩ (Nat.zero_le _) (Nat.zero_le _)
            · refine ww_iconst (v := 1) dX9_closes_324 (by decide) ?_
              refine ww_goto (tgt := 329) dX9_closes_325 (by decide) ?_
              refine mm_zast dX9_closes_329 rfl (show _ = nI e by exact hde) (by omega) rfl rfl ?_
              refine ww_goto (tgt := 374) dX9_closes_330 (by decide) ?_
              exact ww_vret dX9_closes_374 rfl ⟨rfl, by rw [show upd (nxF b L (ad b L p) F) 33 (nxF b L (ad b L p) F 33 - 1) = upd (nxF b L (ad b L p) F) 33 (nI e) from congrArg (upd _ 33) hde, show (wb (!decide (R 38 e = 0) || (!decide (R 38 (e + 1) = 0) && !decide (R 39 (e + 1) = 0)))) = 1 by simp [wb, show ¬ R 38 (e + 1) = 0 from c312, show ¬ R 39 (e + 1) = 0 from c321]]; rfl⟩ (Nat.zero_le _) (Nat.zero_le _)
      · cases ht61
    · rw [hq] at c61
      exact absurd c61 (by decide)
  · exact absurd c27 (by rw [hq]; decide)
set_option maxHeartbeats 4000000 in
theorem c9_closes2 {x : Int32} {b : Nat → Int32} {L p cd k e : Nat} {j : Nat} (hb : R 0 = b) (hL : x = nI L) (hL2 : L ≤ 300) (hp : p ≤ L) (T : tokS b L p F tl) (hw : F 7 = 0) (hk : F 14 = nI k) (hk199 : k < 199) (hd : F 33 = nI (e + 1)) (he : e < 5) (hcd : R 35 (e + 1) = nI cd) (hcd2 : cd < 200) (hq : R 34 (e + 1) = 2) (hck : cd < k) (hB : R 17 cd = nI j) (hj : j < 200) : Sat G mX9_closes [.ref m, .int x] (mh m F tl R NL h0, sz) (Det none (mh m (upd (upd (nxF b L (ad b L p) F) 33 (nI e)) 14 (nI (k + 1))) (nxT b L (ad b L p)) (va_up (va_up (va_up (emR R k 6 (R 16 cd) 0) 18 (upd ((emR R k 6 (R 16 cd) 0) 18) k (nI (k + 1)))) 18 (upd ((va_up (emR R k 6 (R 16 cd) 0) 18 (upd ((emR R k 6 (R 16 cd) 0) 18) k (nI (k + 1)))) 18) j (nI (k + 1)))) 38 (upd (R 38) e (wb (!decide (R 38 e = 0) || !decide (R 38 (e + 1) = 0) || !decide (R 39 (e + 1) = 0))))) NL h0, sz)) := by
  refine Sat.of (by decide) [some (.ref m), some (.int x), none, none, none, none] rfl rfl (fun X => ?_)
  have hde : F 33 - 1 = nI e := by rw [hd]; exact nI_pred e
  have hBk : upd (R 17) k 0 cd = nI j := by rw [show upd (R 17) k 0 cd = R 17 cd by simp [upd, Nat.ne_of_lt hck]]; exact hB
  refine ww_aload_n dX9_closes_0 rfl rfl ?_
  refine mm_geti dX9_closes_1 fX9_251 rfl rfl ?_
  refine ww_istore_n dX9_closes_4 rfl rfl rfl ?_
  refine ww_aload_n dX9_closes_5 rfl rfl ?_
  refine mm_getr dX9_closes_6 fX9_82 rfl ?_
  refine ww_iload_n dX9_closes_9 rfl rfl ?_
  refine mm_zald dX9_closes_10 rfl hd (by omega) rfl rfl ?_
  refine ww_istore_n dX9_closes_11 rfl rfl rfl ?_
  refine ww_aload_n dX9_closes_12 rfl rfl ?_
  refine mm_getr dX9_closes_13 fX9_73 rfl ?_
  refine ww_iload_n dX9_closes_16 rfl rfl ?_
  refine mm_iald dX9_closes_17 rfl hd (by omega) rfl rfl ?_
  refine ww_istore dX9_closes_18 rfl rfl ?_
  refine ww_aload_n dX9_closes_20 rfl rfl ?_
  refine mm_getr dX9_closes_21 fX9_70 rfl ?_
  refine ww_iload_n dX9_closes_24 rfl rfl ?_
  refine mm_iald dX9_closes_25 rfl hd (by omega) rfl rfl ?_
  refine ww_iconst (v := 5) dX9_closes_26 (by decide) ?_
  refine ww_icmp_ne (tgt := 40) dX9_closes_27 (by decide) (fun c27 => ?_) (fun c27 => ?_)
  · refine ww_aload_n dX9_closes_40 rfl rfl ?_
    refine ww_iload_n dX9_closes_41 rfl rfl ?_
    refine mm_call0 dX9_closes_42 kX9_233 rfl (a9_next (p := ad b L p) (by exact hb) hL hL2 (by exact T.1) (ad_le hp).2) rfl rfl rfl rfl rfl rfl (Nat.zero_le _) (Nat.zero_le _) ?_
    refine ww_aload_n dX9_closes_45 rfl rfl ?_
    refine ww_dup dX9_closes_46 rfl ?_
    refine mm_geti dX9_closes_47 fX9_251 rfl rfl ?_
    refine ww_iconst (v := 1) dX9_closes_50 (by decide) ?_
    refine ww_isub dX9_closes_51 ?_
    refine mm_puti dX9_closes_52 fX9_251 rfl rfl ?_
    refine ww_aload_n dX9_closes_55 rfl rfl ?_
    refine mm_getr dX9_closes_56 fX9_70 rfl ?_
    refine ww_iload_n dX9_closes_59 rfl rfl ?_
    refine mm_iald dX9_closes_60 rfl hd (by omega) rfl rfl ?_
    refine ww_table [92, 148, 233, 280] 333 dX9_closes_61 (by decide) (by decide) (by decide) (fun j61 t61 ht61 c61 => ?_) (fun c61 => ?_)
    · rcases j61 with _ | _ | _ | _ | j
      · cases ht61
        rw [hq] at c61
        exact absurd c61 (by decide)
      · cases ht61
        refine ww_aload_n dX9_closes_148 rfl rfl ?_
        refine ww_bipush (v := 6) dX9_closes_149 (by decide) ?_
        refine ww_aload_n dX9_closes_151 rfl rfl ?_
        refine mm_getr dX9_closes_152 fX9_24 rfl ?_
        refine ww_iload dX9_closes_155 rfl ?_
        refine mm_iald dX9_closes_157 rfl hcd (by omega) rfl rfl ?_
        refine ww_iconst (v := 0) dX9_closes_158 (by decide) ?_
        refine mm_call1 dX9_closes_159 kX9_268 rfl (c9_emits (k := k) (by exact hk) (by omega)) rfl rfl rfl rfl rfl rfl (Nat.zero_le _) (Nat.zero_le _) ?_
        refine ww_istore dX9_closes_162 rfl rfl ?_
        refine ww_aload_n dX9_closes_164 rfl rfl ?_
        refine mm_getr dX9_closes_165 fX9_30 rfl ?_
        refine ww_iload dX9_closes_168 rfl ?_
        refine ww_aload_n dX9_closes_170 rfl rfl ?_
        refine mm_geti dX9_closes_171 fX9_244 rfl rfl ?_
        refine mm_iast dX9_closes_174 rfl (show nI k = nI k from rfl) (by omega) rfl rfl ?_
        refine ww_aload_n dX9_closes_175 rfl rfl ?_
        refine mm_getr dX9_closes_176 fX9_30 rfl ?_
        refine ww_aload_n dX9_closes_179 rfl rfl ?_
        refine mm_getr dX9_closes_180 fX9_27 rfl ?_
        refine ww_iload dX9_closes_183 rfl ?_
        refine mm_iald dX9_closes_185 rfl hcd (by omega) rfl rfl ?_
        refine ww_aload_n dX9_closes_186 rfl rfl ?_
        refine mm_geti dX9_closes_187 fX9_244 rfl rfl ?_
        refine mm_iast dX9_closes_190 rfl (show _ = nI j by exact hBk) (by omega) rfl rfl ?_
        refine ww_aload_n dX9_closes_191 rfl rfl ?_
        refine mm_getr dX9_closes_192 fX9_82 rfl ?_
        refine ww_aload_n dX9_closes_195 rfl rfl ?_
        refine mm_geti dX9_closes_196 fX9_251 rfl rfl ?_
        refine ww_aload_n dX9_closes_199 rfl rfl ?_
        refine mm_getr dX9_closes_200 fX9_82 rfl ?_
        refine ww_aload_n dX9_closes_203 rfl rfl ?_
        refine mm_geti dX9_closes_204 fX9_251 rfl rfl ?_
        refine mm_zald dX9_closes_207 rfl (show _ = nI e by exact hde) (by omega) rfl rfl ?_
        refine ww_if_ne (tgt := 224) dX9_closes_208 (by decide) (fun c208 => ?_) (fun c208 => ?_)
        · refine ww_iconst (v := 1) dX9_closes_224 (by decide) ?_
          refine ww_goto (tgt := 229) dX9_closes_225 (by decide) ?_
          refine mm_zast dX9_closes_229 rfl (show _ = nI e by exact hde) (by omega) rfl rfl ?_
          refine ww_goto (tgt := 374) dX9_closes_230 (by decide) ?_
          exact ww_vret dX9_closes_374 rfl ⟨rfl, by rw [show upd (nxF b L (ad b L p) F) 33 (nxF b L (ad b L p) F 33 - 1) = upd (nxF b L (ad b L p) F) 33 (nI e) from congrArg (upd _ 33) hde, show (wb (!decide (R 38 e = 0) || !decide (R 38 (e + 1) = 0) || !decide (R 39 (e + 1) = 0))) = 1 by simp [wb, show ¬ R 38 e = 0 from c208]]; rfl⟩ (Nat.zero_le _) (Nat.zero_le _)
        · refine ww_iload_n dX9_closes_211 rfl rfl ?_
          refine ww_if_ne (tgt := 224) dX9_closes_212 (by decide) (fun c212 => ?_) (fun c212 => ?_)
          · refine ww_iconst (v := 1) dX9_closes_224 (by decide) ?_
            refine ww_goto (tgt := 229) dX9_closes_225 (by decide) ?_
            refine mm_zast dX9_closes_229 rfl (show _ = nI e by exact hde) (by omega) rfl rfl ?_
            refine ww_goto (tgt := 374) dX9_closes_230 (by decide) ?_
            exact ww_vret dX9_closes_374 rfl ⟨rfl, by rw [show upd (nxF b L (ad b L p) F) 33 (nxF b L (ad b L p) F 33 - 1) = upd (nxF b L (ad b L p) F) 33 (nI e) from congrArg (upd _ 33) hde, show (wb (!decide (R 38 e = 0) || !decide (R 38 (e + 1) = 0) || !decide (R 39 (e + 1) = 0))) = 1 by simp [wb, show ¬ R 38 (e + 1) = 0 from c212]]; rfl⟩ (Nat.zero_le _) (Nat.zero_le _)
          · refine ww_aload_n dX9_closes_215 rfl rfl ?_
            refine mm_getr dX9_closes_216 fX9_86 rfl ?_
            refine ww_iload_n dX9_closes_219 rfl rfl ?_
            refine mm_zald dX9_closes_220 rfl hd (by omega) rfl rfl ?_
            refine ww_if_eq (tgt := 228) dX9_closes_221 (by decide) (fun c221 => ?_) (fun c221 => ?_)
            · refine ww_iconst (v := 0) dX9_closes_228 (by decide) ?_
              refine mm_zast dX9_closes_229 rfl (show _ = nI e by exact hde) (by omega) rfl rfl ?_
              refine ww_goto (tgt := 374) dX9_closes_230 (by decide) ?_
              exact ww_vret dX9_closes_374 rfl ⟨rfl, by rw [show upd (nxF b L (ad b L p) F) 33 (nxF b L (ad b L p) F 33 - 1) = upd (nxF b L (ad b L p) F) 33 (nI e) from congrArg (upd _ 33) hde, show (wb (!decide (R 38 e = 0) || !decide (R 38 (e + 1) = 0) || !decide (R 39 (e + 1) = 0))) = 0 by simp [wb, show R 38 e = 0 from c208, show R 38 (e + 1) = 0 from c212, show R 39 (e + 1) = 0 from c221]]; rfl⟩ (Nat.zero_le _) (Nat.zero_le _)
            · refine ww_iconst (v := 1) dX9_closes_224 (by decide) ?_
              refine ww_goto (tgt := 229) dX9_closes_225 (by decide) ?_
              refine mm_zast dX9_closes_229 rfl (show _ = nI e by exact hde) (by omega) rfl rfl ?_
              refine ww_goto (tgt := 374) dX9_closes_230 (by decide) ?_
              exact ww_vret dX9_closes_374 rfl ⟨rfl, by rw [show upd (nxF b L (ad b L p) F) 33 (nxF b L (ad b L p) F 33 - 1) = upd (nxF b L (ad b L p) F) 33 (nI e) from congrArg (upd _ 33) hde, show (wb (!decide (R 38 e = 0) || !decide (R 38 (e + 1) = 0) || !decide (R 39 (e + 1) = 0))) = 1 by simp [wb, show ¬ R 39 (e + 1) = 0 from c221]]; rfl⟩ (Nat.zero_le _) (Nat.zero_le _)
      · cases ht61
        rw [hq] at c61
        exact absurd c61 (by decide)
      · cases ht61
        rw [hq] at c61
        exact absurd c61 (by decide)
      · cases ht61
    · rw [hq] at c61
      exact absurd c61 (by decide)
  · exact absurd c27 (by rw [hq]; decide)
set_option maxHeartbeats 4000000 in
theorem c9_closes1K {x : Int32} {b : Nat → Int32} {L p cd k e : Nat} (hb : R 0 = b) (hL : x = nI L) (hL2 : L ≤ 300) (hp : p ≤ L) (T : tokS b L p F tl) (hw : F 7 = 0) (hk : F 14 = nI k) (hk199 : k < 199) (hd : F 33 = nI (e + 1)) (he : e < 5) (hcd : R 35 (e + 1) = nI cd) (hcd2 : cd < 200) (hq : R 34 (e + 1) = 1) (h1 : kd b L (ad b L p) = 11) : Sat G mX9_closes [.ref m, .int x] (mh m F tl R NL h0, sz) (Det none (mh m (upd (nxF b L (ad b L (ad b L p)) (upd (upd (nxF b L (ad b L p) F) 33 (nI e)) 14 (nI (k + 1)))) 33 (nI (e + 1))) (nxT b L (ad b L (ad b L p))) (opR (va_up (va_up (va_up (emR R k 6 (R 16 cd) 0) 18 (upd ((emR R k 6 (R 16 cd) 0) 18) cd (nI (k + 1)))) 39 (upd (R 39) (e + 1) (vp_nar .boolean (R 38 (e + 1))))) 17 (upd ((va_up (va_up (emR R k 6 (R 16 cd) 0) 18 (upd ((emR R k 6 (R 16 cd) 0) 18) cd (nI (k + 1)))) 39 (upd (R 39) (e + 1) (vp_nar .boolean (R 38 (e + 1))))) 17) cd (nI k))) (e + 1) 2 (nI cd) 0 0) NL h0, sz)) := by
  refine Sat.of (by decide) [some (.ref m), some (.int x), none, none, none, none] rfl rfl (fun X => ?_)
  have hde : F 33 - 1 = nI e := by rw [hd]; exact nI_pred e
  have hp1 := (ad_le (b := b) hp).2
  have hp2 := (ad_le (b := b) hp1).2
  refine ww_aload_n dX9_closes_0 rfl rfl ?_
  refine mm_geti dX9_closes_1 fX9_251 rfl rfl ?_
  refine ww_istore_n dX9_closes_4 rfl rfl rfl ?_
  refine ww_aload_n dX9_closes_5 rfl rfl ?_
  refine mm_getr dX9_closes_6 fX9_82 rfl ?_
  refine ww_iload_n dX9_closes_9 rfl rfl ?_
  refine mm_zald dX9_closes_10 rfl hd (by omega) rfl rfl ?_
  refine ww_istore_n dX9_closes_11 rfl rfl rfl ?_
  refine ww_aload_n dX9_closes_12 rfl rfl ?_
  refine mm_getr dX9_closes_13 fX9_73 rfl ?_
  refine ww_iload_n dX9_closes_16 rfl rfl ?_
  refine mm_iald dX9_closes_17 rfl hd (by omega) rfl rfl ?_
  refine ww_istore dX9_closes_18 rfl rfl ?_
  refine ww_aload_n dX9_closes_20 rfl rfl ?_
  refine mm_getr dX9_closes_21 fX9_70 rfl ?_
  refine ww_iload_n dX9_closes_24 rfl rfl ?_
  refine mm_iald dX9_closes_25 rfl hd (by omega) rfl rfl ?_
  refine ww_iconst (v := 5) dX9_closes_26 (by decide) ?_
  refine ww_icmp_ne (tgt := 40) dX9_closes_27 (by decide) (fun c27 => ?_) (fun c27 => ?_)
  · refine ww_aload_n dX9_closes_40 rfl rfl ?_
    refine ww_iload_n dX9_closes_41 rfl rfl ?_
    refine mm_call0 dX9_closes_42 kX9_233 rfl (a9_next (p := ad b L p) (by exact hb) hL hL2 (by exact T.1) (ad_le hp).2) rfl rfl rfl rfl rfl rfl (Nat.zero_le _) (Nat.zero_le _) ?_
    refine ww_aload_n dX9_closes_45 rfl rfl ?_
    refine ww_dup dX9_closes_46 rfl ?_
    refine mm_geti dX9_closes_47 fX9_251 rfl rfl ?_
    refine ww_iconst (v := 1) dX9_closes_50 (by decide) ?_
    refine ww_isub dX9_closes_51 ?_
    refine mm_puti dX9_closes_52 fX9_251 rfl rfl ?_
    refine ww_aload_n dX9_closes_55 rfl rfl ?_
    refine mm_getr dX9_closes_56 fX9_70 rfl ?_
    refine ww_iload_n dX9_closes_59 rfl rfl ?_
    refine mm_iald dX9_closes_60 rfl hd (by omega) rfl rfl ?_
    refine ww_table [92, 148, 233, 280] 333 dX9_closes_61 (by decide) (by decide) (by decide) (fun j61 t61 ht61 c61 => ?_) (fun c61 => ?_)
    · rcases j61 with _ | _ | _ | _ | j
      · cases ht61
        refine ww_aload_n dX9_closes_92 rfl rfl ?_
        refine ww_bipush (v := 6) dX9_closes_93 (by decide) ?_
        refine ww_aload_n dX9_closes_95 rfl rfl ?_
        refine mm_getr dX9_closes_96 fX9_24 rfl ?_
        refine ww_iload dX9_closes_99 rfl ?_
        refine mm_iald dX9_closes_101 rfl hcd (by omega) rfl rfl ?_
        refine ww_iconst (v := 0) dX9_closes_102 (by decide) ?_
        refine mm_call1 dX9_closes_103 kX9_268 rfl (c9_emits (k := k) (by exact hk) (by omega)) rfl rfl rfl rfl rfl rfl (Nat.zero_le _) (Nat.zero_le _) ?_
        refine ww_istore dX9_closes_106 rfl rfl ?_
        refine ww_aload_n dX9_closes_108 rfl rfl ?_
        refine mm_getr dX9_closes_109 fX9_30 rfl ?_
        refine ww_iload dX9_closes_112 rfl ?_
        refine ww_aload_n dX9_closes_114 rfl rfl ?_
        refine mm_geti dX9_closes_115 fX9_244 rfl rfl ?_
        refine mm_iast dX9_closes_118 rfl hcd (by omega) rfl rfl ?_
        refine ww_aload_n dX9_closes_119 rfl rfl ?_
        refine mm_getr dX9_closes_120 fX9_86 rfl ?_
        refine ww_iload_n dX9_closes_123 rfl rfl ?_
        refine ww_iload_n dX9_closes_124 rfl rfl ?_
        refine mm_zast dX9_closes_125 rfl hd (by omega) rfl rfl ?_
        refine ww_aload_n dX9_closes_126 rfl rfl ?_
        refine mm_getr dX9_closes_127 fX9_27 rfl ?_
        refine ww_iload dX9_closes_130 rfl ?_
        refine ww_iload dX9_closes_132 rfl ?_
        refine mm_iast dX9_closes_134 rfl hcd (by omega) rfl rfl ?_
        refine ww_aload_n dX9_closes_135 rfl rfl ?_
        refine ww_iconst (v := 2) dX9_closes_136 (by decide) ?_
        refine ww_iload dX9_closes_137 rfl ?_
        refine ww_iconst (v := 0) dX9_closes_139 (by decide) ?_
        refine ww_iconst (v := 0) dX9_closes_140 (by decide) ?_
        refine ww_iload_n dX9_closes_141 rfl rfl ?_
        refine mm_call0 dX9_closes_142 kX9_289 rfl (c9_opens (d := e) (a9_tsK (c := 123) (k := 11) (by exact hb) hL hL2 hp1 (by exact tokS_up (tokS_up (tokS_nx (ad_le hp).2))) (by exact hw) (by decide) rfl h1) (by exact hde) he) rfl rfl rfl rfl rfl rfl (Nat.zero_le _) (Nat.zero_le _) ?_
        refine ww_goto (tgt := 374) dX9_closes_145 (by decide) ?_
        exact ww_vret dX9_closes_374 rfl ⟨rfl, by rw [show upd (nxF b L (ad b L p) F) 33 (nxF b L (ad b L p) F 33 - 1) = upd (nxF b L (ad b L p) F) 33 (nI e) from congrArg (upd _ 33) hde, hcd]; rfl⟩ (Nat.zero_le _) (Nat.zero_le _)
      · cases ht61
        rw [hq] at c61
        exact absurd c61 (by decide)
      · cases ht61
        rw [hq] at c61
        exact absurd c61 (by decide)
      · cases ht61
        rw [hq] at c61
        exact absurd c61 (by decide)
      · cases ht61
    · rw [hq] at c61
      exact absurd c61 (by decide)
  · exact absurd c27 (by rw [hq]; decide)
set_option maxHeartbeats 4000000 in
theorem c9_closes1B {x : Int32} {b : Nat → Int32} {L p cd k e : Nat} (hb : R 0 = b) (hL : x = nI L) (hL2 : L ≤ 300) (hp : p ≤ L) (T : tokS b L p F tl) (hw : F 7 = 0) (hk : F 14 = nI k) (hk199 : k < 199) (hd : F 33 = nI (e + 1)) (he : e < 5) (hcd : R 35 (e + 1) = nI cd) (hcd2 : cd < 200) (hq : R 34 (e + 1) = 1) (h1 : ¬ kd b L (ad b L p) = 11) : Sat G mX9_closes [.ref m, .int x] (mh m F tl R NL h0, sz) (Det none (mh m (upd (upd (upd (upd (upd (nxF b L (ad b L p) F) 33 (nI e)) 14 (nI (k + 1))) 7 1) 8 (nI (nS b L (ad b L p)))) 33 (nI (e + 1))) (nxT b L (ad b L p)) (opR (va_up (va_up (va_up (emR R k 6 (R 16 cd) 0) 18 (upd ((emR R k 6 (R 16 cd) 0) 18) cd (nI (k + 1)))) 39 (upd (R 39) (e + 1) (vp_nar .boolean (R 38 (e + 1))))) 17 (upd ((va_up (va_up (emR R k 6 (R 16 cd) 0) 18 (upd ((emR R k 6 (R 16 cd) 0) 18) cd (nI (k + 1)))) 39 (upd (R 39) (e + 1) (vp_nar .boolean (R 38 (e + 1))))) 17) cd (nI k))) (e + 1) 2 (nI cd) 0 0) NL h0, sz)) := by
  refine Sat.of (by decide) [some (.ref m), some (.int x), none, none, none, none] rfl rfl (fun X => ?_)
  have hde : F 33 - 1 = nI e := by rw [hd]; exact nI_pred e
  have hp1 := (ad_le (b := b) hp).2
  have hp2 := (ad_le (b := b) hp1).2
  refine ww_aload_n dX9_closes_0 rfl rfl ?_
  refine mm_geti dX9_closes_1 fX9_251 rfl rfl ?_
  refine ww_istore_n dX9_closes_4 rfl rfl rfl ?_
  refine ww_aload_n dX9_closes_5 rfl rfl ?_
  refine mm_getr dX9_closes_6 fX9_82 rfl ?_
  refine ww_iload_n dX9_closes_9 rfl rfl ?_
  refine mm_zald dX9_closes_10 rfl hd (by omega) rfl rfl ?_
  refine ww_istore_n dX9_closes_11 rfl rfl rfl ?_
  refine ww_aload_n dX9_closes_12 rfl rfl ?_
  refine mm_getr dX9_closes_13 fX9_73 rfl ?_
  refine ww_iload_n dX9_closes_16 rfl rfl ?_
  refine mm_iald dX9_closes_17 rfl hd (by omega) rfl rfl ?_
  refine ww_istore dX9_closes_18 rfl rfl ?_
  refine ww_aload_n dX9_closes_20 rfl rfl ?_
  refine mm_getr dX9_closes_21 fX9_70 rfl ?_
  refine ww_iload_n dX9_closes_24 rfl rfl ?_
  refine mm_iald dX9_closes_25 rfl hd (by omega) rfl rfl ?_
  refine ww_iconst (v := 5) dX9_closes_26 (by decide) ?_
  refine ww_icmp_ne (tgt := 40) dX9_closes_27 (by decide) (fun c27 => ?_) (fun c27 => ?_)
  · refine ww_aload_n dX9_closes_40 rfl rfl ?_
    refine ww_iload_n dX9_closes_41 rfl rfl ?_
    refine mm_call0 dX9_closes_42 kX9_233 rfl (a9_next (p := ad b L p) (by exact hb) hL hL2 (by exact T.1) (ad_le hp).2) rfl rfl rfl rfl rfl rfl (Nat.zero_le _) (Nat.zero_le _) ?_
    refine ww_aload_n dX9_closes_45 rfl rfl ?_
    refine ww_dup dX9_closes_46 rfl ?_
    refine mm_geti dX9_closes_47 fX9_251 rfl rfl ?_
    refine ww_iconst (v := 1) dX9_closes_50 (by decide) ?_
    refine ww_isub dX9_closes_51 ?_
    refine mm_puti dX9_closes_52 fX9_251 rfl rfl ?_
    refine ww_aload_n dX9_closes_55 rfl rfl ?_
    refine mm_getr dX9_closes_56 fX9_70 rfl ?_
    refine ww_iload_n dX9_closes_59 rfl rfl ?_
    refine mm_iald dX9_closes_60 rfl hd (by omega) rfl rfl ?_
    refine ww_table [92, 148, 233, 280] 333 dX9_closes_61 (by decide) (by decide) (by decide) (fun j61 t61 ht61 c61 => ?_) (fun c61 => ?_)
    · rcases j61 with _ | _ | _ | _ | j
      · cases ht61
        refine ww_aload_n dX9_closes_92 rfl rfl ?_
        refine ww_bipush (v := 6) dX9_closes_93 (by decide) ?_
        refine ww_aload_n dX9_closes_95 rfl rfl ?_
        refine mm_getr dX9_closes_96 fX9_24 rfl ?_
        refine ww_iload dX9_closes_99 rfl ?_
        refine mm_iald dX9_closes_101 rfl hcd (by omega) rfl rfl ?_
        refine ww_iconst (v := 0) dX9_closes_102 (by decide) ?_
        refine mm_call1 dX9_closes_103 kX9_268 rfl (c9_emits (k := k) (by exact hk) (by omega)) rfl rfl rfl rfl rfl rfl (Nat.zero_le _) (Nat.zero_le _) ?_
        refine ww_istore dX9_closes_106 rfl rfl ?_
        refine ww_aload_n dX9_closes_108 rfl rfl ?_
        refine mm_getr dX9_closes_109 fX9_30 rfl ?_
        refine ww_iload dX9_closes_112 rfl ?_
        refine ww_aload_n dX9_closes_114 rfl rfl ?_
        refine mm_geti dX9_closes_115 fX9_244 rfl rfl ?_
        refine mm_iast dX9_closes_118 rfl hcd (by omega) rfl rfl ?_
        refine ww_aload_n dX9_closes_119 rfl rfl ?_
        refine mm_getr dX9_closes_120 fX9_86 rfl ?_
        refine ww_iload_n dX9_closes_123 rfl rfl ?_
        refine ww_iload_n dX9_closes_124 rfl rfl ?_
        refine mm_zast dX9_closes_125 rfl hd (by omega) rfl rfl ?_
        refine ww_aload_n dX9_closes_126 rfl rfl ?_
        refine mm_getr dX9_closes_127 fX9_27 rfl ?_
        refine ww_iload dX9_closes_130 rfl ?_
        refine ww_iload dX9_closes_132 rfl ?_
        refine mm_iast dX9_closes_134 rfl hcd (by omega) rfl rfl ?_
        refine ww_aload_n dX9_closes_135 rfl rfl ?_
        refine ww_iconst (v := 2) dX9_closes_136 (by decide) ?_
        refine ww_iload dX9_closes_137 rfl ?_
        refine ww_iconst (v := 0) dX9_closes_139 (by decide) ?_
        refine ww_iconst (v := 0) dX9_closes_140 (by decide) ?_
        refine ww_iload_n dX9_closes_141 rfl rfl ?_
        refine mm_call0 dX9_closes_142 kX9_289 rfl (c9_opens (d := e) (a9_tsB (c := 123) (k := 11) hp1 (by exact tokS_up (tokS_up (tokS_nx (ad_le hp).2))) (by exact hw) (by decide) rfl h1) (by exact hde) he) rfl rfl rfl rfl rfl rfl (Nat.zero_le _) (Nat.zero_le _) ?_
        refine ww_goto (tgt := 374) dX9_closes_145 (by decide) ?_
        exact ww_vret dX9_closes_374 rfl ⟨rfl, by rw [show upd (nxF b L (ad b L p) F) 33 (nxF b L (ad b L p) F 33 - 1) = upd (nxF b L (ad b L p) F) 33 (nI e) from congrArg (upd _ 33) hde, hcd]; rfl⟩ (Nat.zero_le _) (Nat.zero_le _)
      · cases ht61
        rw [hq] at c61
        exact absurd c61 (by decide)
      · cases ht61
        rw [hq] at c61
        exact absurd c61 (by decide)
      · cases ht61
        rw [hq] at c61
        exact absurd c61 (by decide)
      · cases ht61
    · rw [hq] at c61
      exact absurd c61 (by decide)
  · exact absurd c27 (by rw [hq]; decide)
set_option maxHeartbeats 4000000 in
theorem c9_closes3K {x : Int32} {b : Nat → Int32} {L p cd k e : Nat} (hb : R 0 = b) (hL : x = nI L) (hL2 : L ≤ 300) (hp : p ≤ L) (T : tokS b L p F tl) (hw : F 7 = 0) (hk : F 14 = nI k) (hk199 : k < 199) (hd : F 33 = nI (e + 1)) (he : e < 5) (hcd : R 35 (e + 1) = nI cd) (hcd2 : cd < 200) (hq : R 34 (e + 1) = 3) (h1 : kd b L (ad b L p) = 6) (h2 : kd b L (ad b L (ad b L p)) = 11) : Sat G mX9_closes [.ref m, .int x] (mh m F tl R NL h0, sz) (Det none (mh m (upd (nxF b L (ad b L (ad b L (ad b L p))) (nxF b L (ad b L (ad b L p)) (upd (upd (nxF b L (ad b L p) F) 33 (nI e)) 14 (nI (k + 1))))) 33 (nI (e + 1))) (nxT b L (ad b L (ad b L (ad b L p)))) (opR (va_up (va_up (emR R k 3 0 0) 18 (upd ((emR R k 3 0 0) 18) cd (nI (k + 1)))) 39 (upd (R 39) (e + 1) (vp_nar .boolean (R 38 (e + 1))))) (e + 1) 4 (nI k) 0 0) NL h0, sz)) := by
  refine Sat.of (by decide) [some (.ref m), some (.int x), none, none, none, none] rfl rfl (fun X => ?_)
  have hde : F 33 - 1 = nI e := by rw [hd]; exact nI_pred e
  have hp1 := (ad_le (b := b) hp).2
  have hp2 := (ad_le (b := b) hp1).2
  refine ww_aload_n dX9_closes_0 rfl rfl ?_
  refine mm_geti dX9_closes_1 fX9_251 rfl rfl ?_
  refine ww_istore_n dX9_closes_4 rfl rfl rfl ?_
  refine ww_aload_n dX9_closes_5 rfl rfl ?_
  refine mm_getr dX9_closes_6 fX9_82 rfl ?_
  refine ww_iload_n dX9_closes_9 rfl rfl ?_
  refine mm_zald dX9_closes_10 rfl hd (by omega) rfl rfl ?_
  refine ww_istore_n dX9_closes_11 rfl rfl rfl ?_
  refine ww_aload_n dX9_closes_12 rfl rfl ?_
  refine mm_getr dX9_closes_13 fX9_73 rfl ?_
  refine ww_iload_n dX9_closes_16 rfl rfl ?_
  refine mm_iald dX9_closes_17 rfl hd (by omega) rfl rfl ?_
  refine ww_istore dX9_closes_18 rfl rfl ?_
  refine ww_aload_n dX9_closes_20 rfl rfl ?_
  refine mm_getr dX9_closes_21 fX9_70 rfl ?_
  refine ww_iload_n dX9_closes_24 rfl rfl ?_
  refine mm_iald dX9_closes_25 rfl hd (by omega) rfl rfl ?_
  refine ww_iconst (v := 5) dX9_closes_26 (by decide) ?_
  refine ww_icmp_ne (tgt := 40) dX9_closes_27 (by decide) (fun c27 => ?_) (fun c27 => ?_)
  · refine ww_aload_n dX9_closes_40 rfl rfl ?_
    refine ww_iload_n dX9_closes_41 rfl rfl ?_
    refine mm_call0 dX9_closes_42 kX9_233 rfl (a9_next (p := ad b L p) (by exact hb) hL hL2 (by exact T.1) (ad_le hp).2) rfl rfl rfl rfl rfl rfl (Nat.zero_le _) (Nat.zero_le _) ?_
    refine ww_aload_n dX9_closes_45 rfl rfl ?_
    refine ww_dup dX9_closes_46 rfl ?_
    refine mm_geti dX9_closes_47 fX9_251 rfl rfl ?_
    refine ww_iconst (v := 1) dX9_closes_50 (by decide) ?_
    refine ww_isub dX9_closes_51 ?_
    refine mm_puti dX9_closes_52 fX9_251 rfl rfl ?_
    refine ww_aload_n dX9_closes_55 rfl rfl ?_
    refine mm_getr dX9_closes_56 fX9_70 rfl ?_
    refine ww_iload_n dX9_closes_59 rfl rfl ?_
    refine mm_iald dX9_closes_60 rfl hd (by omega) rfl rfl ?_
    refine ww_table [92, 148, 233, 280] 333 dX9_closes_61 (by decide) (by decide) (by decide) (fun j61 t61 ht61 c61 => ?_) (fun c61 => ?_)
    · rcases j61 with _ | _ | _ | _ | j
      · cases ht61
        rw [hq] at c61
        exact absurd c61 (by decide)
      · cases ht61
        rw [hq] at c61
        exact absurd c61 (by decide)
      · cases ht61
        refine ww_aload_n dX9_closes_233 rfl rfl ?_
        refine ww_iconst (v := 3) dX9_closes_234 (by decide) ?_
        refine ww_iconst (v := 0) dX9_closes_235 (by decide) ?_
        refine ww_iconst (v := 0) dX9_closes_236 (by decide) ?_
        refine mm_call1 dX9_closes_237 kX9_268 rfl (c9_emits (k := k) (by exact hk) (by omega)) rfl rfl rfl rfl rfl rfl (Nat.zero_le _) (Nat.zero_le _) ?_
        refine ww_istore dX9_closes_240 rfl rfl ?_
        refine ww_aload_n dX9_closes_242 rfl rfl ?_
        refine mm_getr dX9_closes_243 fX9_30 rfl ?_
        refine ww_iload dX9_closes_246 rfl ?_
        refine ww_aload_n dX9_closes_248 rfl rfl ?_
        refine mm_geti dX9_closes_249 fX9_244 rfl rfl ?_
        refine mm_iast dX9_closes_252 rfl hcd (by omega) rfl rfl ?_
        refine ww_aload_n dX9_closes_253 rfl rfl ?_
        refine mm_getr dX9_closes_254 fX9_86 rfl ?_
        refine ww_iload_n dX9_closes_257 rfl rfl ?_
        refine ww_iload_n dX9_closes_258 rfl rfl ?_
        refine mm_zast dX9_closes_259 rfl hd (by omega) rfl rfl ?_
        refine ww_aload_n dX9_closes_260 rfl rfl ?_
        refine ww_bipush (v := 6) dX9_closes_261 (by decide) ?_
        refine ww_iload_n dX9_closes_263 rfl rfl ?_
        refine mm_call0 dX9_closes_264 kX9_261 rfl (a9_twK (w := 6) (by exact hb) hL hL2 hp1 (by exact tokS_up (tokS_up (tokS_nx (ad_le hp).2))) (by exact hw) (by decide) rfl h1) rfl rfl rfl rfl rfl rfl (Nat.zero_le _) (Nat.zero_le _) ?_
        refine ww_aload_n dX9_closes_267 rfl rfl ?_
        refine ww_iconst (v := 4) dX9_closes_268 (by decide) ?_
        refine ww_iload dX9_closes_269 rfl ?_
        refine ww_iconst (v := 0) dX9_closes_271 (by decide) ?_
        refine ww_iconst (v := 0) dX9_closes_272 (by decide) ?_
        refine ww_iload_n dX9_closes_273 rfl rfl ?_
        refine mm_call0 dX9_closes_274 kX9_289 rfl (c9_opens (d := e) (a9_tsK (c := 123) (k := 11) (by exact hb) hL hL2 hp2 (by exact tokS_nx hp2) (by exact hw) (by decide) rfl h2) (by exact hde) he) rfl rfl rfl rfl rfl rfl (Nat.zero_le _) (Nat.zero_le _) ?_
        refine ww_goto (tgt := 374) dX9_closes_277 (by decide) ?_
        exact ww_vret dX9_closes_374 rfl ⟨rfl, by rw [show upd (nxF b L (ad b L p) F) 33 (nxF b L (ad b L p) F 33 - 1) = upd (nxF b L (ad b L p) F) 33 (nI e) from congrArg (upd _ 33) hde]; rfl⟩ (Nat.zero_le _) (Nat.zero_le _)
      · cases ht61
        rw [hq] at c61
        exact absurd c61 (by decide)
      · cases ht61
    · rw [hq] at c61
      exact absurd c61 (by decide)
  · exact absurd c27 (by rw [hq]; decide)
set_option maxHeartbeats 4000000 in
theorem c9_closes3B2 {x : Int32} {b : Nat → Int32} {L p cd k e : Nat} (hb : R 0 = b) (hL : x = nI L) (hL2 : L ≤ 300) (hp : p ≤ L) (T : tokS b L p F tl) (hw : F 7 = 0) (hk : F 14 = nI k) (hk199 : k < 199) (hd : F 33 = nI (e + 1)) (he : e < 5) (hcd : R 35 (e + 1) = nI cd) (hcd2 : cd < 200) (hq : R 34 (e + 1) = 3) (h1 : kd b L (ad b L p) = 6) (h2 : ¬ kd b L (ad b L (ad b L p)) = 11) : Sat G mX9_closes [.ref m, .int x] (mh m F tl R NL h0, sz) (Det none (mh m (upd (upd (upd (nxF b L (ad b L (ad b L p)) (upd (upd (nxF b L (ad b L p) F) 33 (nI e)) 14 (nI (k + 1)))) 7 1) 8 (nI (nS b L (ad b L (ad b L p))))) 33 (nI (e + 1))) (nxT b L (ad b L (ad b L p))) (opR (va_up (va_up (emR R k 3 0 0) 18 (upd ((emR R k 3 0 0) 18) cd (nI (k + 1)))) 39 (upd (R 39) (e + 1) (vp_nar .boolean (R 38 (e + 1))))) (e + 1) 4 (nI k) 0 0) NL h0, sz)) := by
  refine Sat.of (by decide) [some (.ref m), some (.int x), none, none, none, none] rfl rfl (fun X => ?_)
  have hde : F 33 - 1 = nI e := by rw [hd]; exact nI_pred e
  have hp1 := (ad_le (b := b) hp).2
  have hp2 := (ad_le (b := b) hp1).2
  refine ww_aload_n dX9_closes_0 rfl rfl ?_
  refine mm_geti dX9_closes_1 fX9_251 rfl rfl ?_
  refine ww_istore_n dX9_closes_4 rfl rfl rfl ?_
  refine ww_aload_n dX9_closes_5 rfl rfl ?_
  refine mm_getr dX9_closes_6 fX9_82 rfl ?_
  refine ww_iload_n dX9_closes_9 rfl rfl ?_
  refine mm_zald dX9_closes_10 rfl hd (by omega) rfl rfl ?_
  refine ww_istore_n dX9_closes_11 rfl rfl rfl ?_
  refine ww_aload_n dX9_closes_12 rfl rfl ?_
  refine mm_getr dX9_closes_13 fX9_73 rfl ?_
  refine ww_iload_n dX9_closes_16 rfl rfl ?_
  refine mm_iald dX9_closes_17 rfl hd (by omega) rfl rfl ?_
  refine ww_istore dX9_closes_18 rfl rfl ?_
  refine ww_aload_n dX9_closes_20 rfl rfl ?_
  refine mm_getr dX9_closes_21 fX9_70 rfl ?_
  refine ww_iload_n dX9_closes_24 rfl rfl ?_
  refine mm_iald dX9_closes_25 rfl hd (by omega) rfl rfl ?_
  refine ww_iconst (v := 5) dX9_closes_26 (by decide) ?_
  refine ww_icmp_ne (tgt := 40) dX9_closes_27 (by decide) (fun c27 => ?_) (fun c27 => ?_)
  · refine ww_aload_n dX9_closes_40 rfl rfl ?_
    refine ww_iload_n dX9_closes_41 rfl rfl ?_
    refine mm_call0 dX9_closes_42 kX9_233 rfl (a9_next (p := ad b L p) (by exact hb) hL hL2 (by exact T.1) (ad_le hp).2) rfl rfl rfl rfl rfl rfl (Nat.zero_le _) (Nat.zero_le _) ?_
    refine ww_aload_n dX9_closes_45 rfl rfl ?_
    refine ww_dup dX9_closes_46 rfl ?_
    refine mm_geti dX9_closes_47 fX9_251 rfl rfl ?_
    refine ww_iconst (v := 1) dX9_closes_50 (by decide) ?_
    refine ww_isub dX9_closes_51 ?_
    refine mm_puti dX9_closes_52 fX9_251 rfl rfl ?_
    refine ww_aload_n dX9_closes_55 rfl rfl ?_
    refine mm_getr dX9_closes_56 fX9_70 rfl ?_
    refine ww_iload_n dX9_closes_59 rfl rfl ?_
    refine mm_iald dX9_closes_60 rfl hd (by omega) rfl rfl ?_
    refine ww_table [92, 148, 233, 280] 333 dX9_closes_61 (by decide) (by decide) (by decide) (fun j61 t61 ht61 c61 => ?_) (fun c61 => ?_)
    · rcases j61 with _ | _ | _ | _ | j
      · cases ht61
        rw [hq] at c61
        exact absurd c61 (by decide)
      · cases ht61
        rw [hq] at c61
        exact absurd c61 (by decide)
      · cases ht61
        refine ww_aload_n dX9_closes_233 rfl rfl ?_
        refine ww_iconst (v := 3) dX9_closes_234 (by decide) ?_
        refine ww_iconst (v := 0) dX9_closes_235 (by decide) ?_
        refine ww_iconst (v := 0) dX9_closes_236 (by decide) ?_
        refine mm_call1 dX9_closes_237 kX9_268 rfl (c9_emits (k := k) (by exact hk) (by omega)) rfl rfl rfl rfl rfl rfl (Nat.zero_le _) (Nat.zero_le _) ?_
        refine ww_istore dX9_closes_240 rfl rfl ?_
        refine ww_aload_n dX9_closes_242 rfl rfl ?_
        refine mm_getr dX9_closes_243 fX9_30 rfl ?_
        refine ww_iload dX9_closes_246 rfl ?_
        refine ww_aload_n dX9_closes_248 rfl rfl ?_
        refine mm_geti dX9_closes_249 fX9_244 rfl rfl ?_
        refine mm_iast dX9_closes_252 rfl hcd (by omega) rfl rfl ?_
        refine ww_aload_n dX9_closes_253 rfl rfl ?_
        refine mm_getr dX9_closes_254 fX9_86 rfl ?_
        refine ww_iload_n dX9_closes_257 rfl rfl ?_
        refine ww_iload_n dX9_closes_258 rfl rfl ?_
        refine mm_zast dX9_closes_259 rfl hd (by omega) rfl rfl ?_
        refine ww_aload_n dX9_closes_260 rfl rfl ?_
        refine ww_bipush (v := 6) dX9_closes_261 (by decide) ?_
        refine ww_iload_n dX9_closes_263 rfl rfl ?_
        refine mm_call0 dX9_closes_264 kX9_261 rfl (a9_twK (w := 6) (by exact hb) hL hL2 hp1 (by exact tokS_up (tokS_up (tokS_nx (ad_le hp).2))) (by exact hw) (by decide) rfl h1) rfl rfl rfl rfl rfl rfl (Nat.zero_le _) (Nat.zero_le _) ?_
        refine ww_aload_n dX9_closes_267 rfl rfl ?_
        refine ww_iconst (v := 4) dX9_closes_268 (by decide) ?_
        refine ww_iload dX9_closes_269 rfl ?_
        refine ww_iconst (v := 0) dX9_closes_271 (by decide) ?_
        refine ww_iconst (v := 0) dX9_closes_272 (by decide) ?_
        refine ww_iload_n dX9_closes_273 rfl rfl ?_
        refine mm_call0 dX9_closes_274 kX9_289 rfl (c9_opens (d := e) (a9_tsB (c := 123) (k := 11) hp2 (by exact tokS_nx hp2) (by exact hw) (by decide) rfl h2) (by exact hde) he) rfl rfl rfl rfl rfl rfl (Nat.zero_le _) (Nat.zero_le _) ?_
        refine ww_goto (tgt := 374) dX9_closes_277 (by decide) ?_
        exact ww_vret dX9_closes_374 rfl ⟨rfl, by rw [show upd (nxF b L (ad b L p) F) 33 (nxF b L (ad b L p) F 33 - 1) = upd (nxF b L (ad b L p) F) 33 (nI e) from congrArg (upd _ 33) hde]; rfl⟩ (Nat.zero_le _) (Nat.zero_le _)
      · cases ht61
        rw [hq] at c61
        exact absurd c61 (by decide)
      · cases ht61
    · rw [hq] at c61
      exact absurd c61 (by decide)
  · exact absurd c27 (by rw [hq]; decide)
set_option maxHeartbeats 4000000 in
theorem c9_closes3B1 {x : Int32} {b : Nat → Int32} {L p cd k e : Nat} (hb : R 0 = b) (hL : x = nI L) (hL2 : L ≤ 300) (hp : p ≤ L) (T : tokS b L p F tl) (hw : F 7 = 0) (hk : F 14 = nI k) (hk199 : k < 199) (hd : F 33 = nI (e + 1)) (he : e < 5) (hcd : R 35 (e + 1) = nI cd) (hcd2 : cd < 200) (hq : R 34 (e + 1) = 3) (h1 : ¬ kd b L (ad b L p) = 6) : Sat G mX9_closes [.ref m, .int x] (mh m F tl R NL h0, sz) (Det none (mh m (upd (upd (upd (upd (upd (nxF b L (ad b L p) F) 33 (nI e)) 14 (nI (k + 1))) 7 1) 8 (nI (nS b L (ad b L p)))) 33 (nI (e + 1))) (nxT b L (ad b L p)) (opR (va_up (va_up (emR R k 3 0 0) 18 (upd ((emR R k 3 0 0) 18) cd (nI (k + 1)))) 39 (upd (R 39) (e + 1) (vp_nar .boolean (R 38 (e + 1))))) (e + 1) 4 (nI k) 0 0) NL h0, sz)) := by
  refine Sat.of (by decide) [some (.ref m), some (.int x), none, none, none, none] rfl rfl (fun X => ?_)
  have hde : F 33 - 1 = nI e := by rw [hd]; exact nI_pred e
  have hp1 := (ad_le (b := b) hp).2
  have hp2 := (ad_le (b := b) hp1).2
  refine ww_aload_n dX9_closes_0 rfl rfl ?_
  refine mm_geti dX9_closes_1 fX9_251 rfl rfl ?_
  refine ww_istore_n dX9_closes_4 rfl rfl rfl ?_
  refine ww_aload_n dX9_closes_5 rfl rfl ?_
  refine mm_getr dX9_closes_6 fX9_82 rfl ?_
  refine ww_iload_n dX9_closes_9 rfl rfl ?_
  refine mm_zald dX9_closes_10 rfl hd (by omega) rfl rfl ?_
  refine ww_istore_n dX9_closes_11 rfl rfl rfl ?_
  refine ww_aload_n dX9_closes_12 rfl rfl ?_
  refine mm_getr dX9_closes_13 fX9_73 rfl ?_
  refine ww_iload_n dX9_closes_16 rfl rfl ?_
  refine mm_iald dX9_closes_17 rfl hd (by omega) rfl rfl ?_
  refine ww_istore dX9_closes_18 rfl rfl ?_
  refine ww_aload_n dX9_closes_20 rfl rfl ?_
  refine mm_getr dX9_closes_21 fX9_70 rfl ?_
  refine ww_iload_n dX9_closes_24 rfl rfl ?_
  refine mm_iald dX9_closes_25 rfl hd (by omega) rfl rfl ?_
  refine ww_iconst (v := 5) dX9_closes_26 (by decide) ?_
  refine ww_icmp_ne (tgt := 40) dX9_closes_27 (by decide) (fun c27 => ?_) (fun c27 => ?_)
  · refine ww_aload_n dX9_closes_40 rfl rfl ?_
    refine ww_iload_n dX9_closes_41 rfl rfl ?_
    refine mm_call0 dX9_closes_42 kX9_233 rfl (a9_next (p := ad b L p) (by exact hb) hL hL2 (by exact T.1) (ad_le hp).2) rfl rfl rfl rfl rfl rfl (Nat.zero_le _) (Nat.zero_le _) ?_
    refine ww_aload_n dX9_closes_45 rfl rfl ?_
    refine ww_dup dX9_closes_46 rfl ?_
    refine mm_geti dX9_closes_47 fX9_251 rfl rfl ?_
    refine ww_iconst (v := 1) dX9_closes_50 (by decide) ?_
    refine ww_isub dX9_closes_51 ?_
    refine mm_puti dX9_closes_52 fX9_251 rfl rfl ?_
    refine ww_aload_n dX9_closes_55 rfl rfl ?_
    refine mm_getr dX9_closes_56 fX9_70 rfl ?_
    refine ww_iload_n dX9_closes_59 rfl rfl ?_
    refine mm_iald dX9_closes_60 rfl hd (by omega) rfl rfl ?_
    refine ww_table [92, 148, 233, 280] 333 dX9_closes_61 (by decide) (by decide) (by decide) (fun j61 t61 ht61 c61 => ?_) (fun c61 => ?_)
    · rcases j61 with _ | _ | _ | _ | j
      · cases ht61
        rw [hq] at c61
        exact absurd c61 (by decide)
      · cases ht61
        rw [hq] at c61
        exact absurd c61 (by decide)
      · cases ht61
        refine ww_aload_n dX9_closes_233 rfl rfl ?_
        refine ww_iconst (v := 3) dX9_closes_234 (by decide) ?_
        refine ww_iconst (v := 0) dX9_closes_235 (by decide) ?_
        refine ww_iconst (v := 0) dX9_closes_236 (by decide) ?_
        refine mm_call1 dX9_closes_237 kX9_268 rfl (c9_emits (k := k) (by exact hk) (by omega)) rfl rfl rfl rfl rfl rfl (Nat.zero_le _) (Nat.zero_le _) ?_
        refine ww_istore dX9_closes_240 rfl rfl ?_
        refine ww_aload_n dX9_closes_242 rfl rfl ?_
        refine mm_getr dX9_closes_243 fX9_30 rfl ?_
        refine ww_iload dX9_closes_246 rfl ?_
        refine ww_aload_n dX9_closes_248 rfl rfl ?_
        refine mm_geti dX9_closes_249 fX9_244 rfl rfl ?_
        refine mm_iast dX9_closes_252 rfl hcd (by omega) rfl rfl ?_
        refine ww_aload_n dX9_closes_253 rfl rfl ?_
        refine mm_getr dX9_closes_254 fX9_86 rfl ?_
        refine ww_iload_n dX9_closes_257 rfl rfl ?_
        refine ww_iload_n dX9_closes_258 rfl rfl ?_
        refine mm_zast dX9_closes_259 rfl hd (by omega) rfl rfl ?_
        refine ww_aload_n dX9_closes_260 rfl rfl ?_
        refine ww_bipush (v := 6) dX9_closes_261 (by decide) ?_
        refine ww_iload_n dX9_closes_263 rfl rfl ?_
        refine mm_call0 dX9_closes_264 kX9_261 rfl (a9_twB (w := 6) (b := b) (L := L) (p := ad b L p) (by exact tokS_up (tokS_up (tokS_nx (ad_le hp).2))) (by exact hw) (by decide) rfl h1) rfl rfl rfl rfl rfl rfl (Nat.zero_le _) (Nat.zero_le _) ?_
        refine ww_aload_n dX9_closes_267 rfl rfl ?_
        refine ww_iconst (v := 4) dX9_closes_268 (by decide) ?_
        refine ww_iload dX9_closes_269 rfl ?_
        refine ww_iconst (v := 0) dX9_closes_271 (by decide) ?_
        refine ww_iconst (v := 0) dX9_closes_272 (by decide) ?_
        refine ww_iload_n dX9_closes_273 rfl rfl ?_
        refine mm_call0 dX9_closes_274 kX9_289 rfl (c9_opens (d := e) (c9_takesD (by exact (show ¬ (1 : Int32) = 0 by decide))) (by exact hde) he) rfl rfl rfl rfl rfl rfl (Nat.zero_le _) (Nat.zero_le _) ?_
        refine ww_goto (tgt := 374) dX9_closes_277 (by decide) ?_
        exact ww_vret dX9_closes_374 rfl ⟨rfl, by rw [show upd (nxF b L (ad b L p) F) 33 (nxF b L (ad b L p) F 33 - 1) = upd (nxF b L (ad b L p) F) 33 (nI e) from congrArg (upd _ 33) hde]; rfl⟩ (Nat.zero_le _) (Nat.zero_le _)
      · cases ht61
        rw [hq] at c61
        exact absurd c61 (by decide)
      · cases ht61
    · rw [hq] at c61
      exact absurd c61 (by decide)
  · exact absurd c27 (by rw [hq]; decide)
end M16
