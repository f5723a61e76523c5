
set_option maxHeartbeats 4000000 in
set_option maxRecDepth 20000 in
theorem cb_judgeP_of {ts : Int32} {at_ : Int32} {f : Int32} {sp : Value} {na : Int32} {a1 f3 : Int32} (hf : 0 ≤ f.toInt) (j : (a1 < ts → f_X8_judge (0 : Int32) a1 sp at_ na f = some f3) ∧ (¬ a1 < ts → f_X8_judge (1 : Int32) a1 sp at_ na f = some f3)) : f3 = f := by
  by_cases c : a1 < ts
  · exact cb_judgeP hf (j.1 c)
  · exact cb_judgeP hf (j.2 c)
set_option maxHeartbeats 4000000 in
set_option maxRecDepth 20000 in
theorem s4_time {mod_code : Int32} {court_shoeCount : Int32} {mod_claims : Int32} {ts : Int32} {at_ : Int32} {f : Int32} {court_suitCount : Int32} {mod_doneMany : Int32} {mod_undoneMany : Int32} {mod_open : Int32} {mod_laid : Int32} {mod_isBoth : Int32} {mod_wished : Int32} {mod_bestMany : Int32} {mod_bestRow : Int32} {mod_ringDigits : Int32} {mod_traces : Int32} {tm : Nat → Int32} {mod_askedMany : Nat → Int32} {mod_asked : Nat → Int32} {mod_pointIs : Nat → Int32} {mod_endKind : Nat → Int32} {mod_isWon : Nat → Int32} {mod_firstMany : Nat → Int32} {mod_suedBy : Nat → Int32} {mod_suedOn : Nat → Int32} {mod_suitDay : Nat → Int32} {mod_suitLand : Nat → Int32} {tb : Nat → Int32} {su_who : Int32} {su_against : Int32} {su_kind : Int32} {su_won : Int32} {su_day : Int32} {su_land : Int32} {su_undoneFrom : Int32} {su_askedCount : Int32} {su_askedBits : Int32} {su_first : Int32} {su_foundSo : Int32} {su_foundNot : Int32} {su_fought : Int32} {su_needed : Int32} {sp : Value} {na : Int32} {g : Int32 → Int32 → Int32 → (Nat → Int32) → (Nat → Int32) → (Nat → Int32) → (Nat → Int32) → (Nat → Int32) → (Nat → Int32) → (Nat → Int32) → (Nat → Int32) → (Nat → Int32) → (Nat → Int32) → (Option (Int32 × Int32 × (Nat → Int32) × (Nat → Int32) × (Nat → Int32) × (Nat → Int32) × (Nat → Int32) × (Nat → Int32) × (Nat → Int32) × (Nat → Int32) × (Nat → Int32) × (Nat → Int32)))} {x1 a1 n1 f1 d1 l1 f3 : Int32} {R : Int32 × Int32 × (Nat → Int32) × (Nat → Int32) × (Nat → Int32) × (Nat → Int32) × (Nat → Int32) × (Nat → Int32) × (Nat → Int32) × (Nat → Int32) × (Nat → Int32) × (Nat → Int32)} (hT : TS ts) (hR : TR ts tb tm) (hf : f.toInt < 0) (hp : PB ts at_) (h : f_X8_readTime ts tb sp at_ na f su_who su_against su_kind su_won su_day su_land su_undoneFrom su_askedCount su_askedBits su_first su_foundSo su_foundNot su_fought su_needed = some (a1, n1, f1, d1, l1)) (j : (a1 < ts → f_X8_judge (0 : Int32) a1 sp a1 n1 f1 = some f3) ∧ (¬ a1 < ts → f_X8_judge (1 : Int32) a1 sp a1 n1 f1 = some f3)) (k : M107t g mod_code court_shoeCount mod_claims ts court_suitCount mod_doneMany mod_undoneMany mod_open mod_laid mod_isBoth mod_wished mod_bestMany mod_bestRow mod_ringDigits mod_traces tm x1 at_ f mod_suedBy mod_suedOn mod_endKind mod_isWon mod_suitDay mod_suitLand mod_askedMany mod_firstMany mod_asked mod_pointIs = some R) : R.2.1 = f3 ∧ RFR x1.toInt.toNat (mod_suedBy, mod_suedOn, mod_endKind, mod_isWon, mod_suitDay, mod_suitLand, mod_askedMany, mod_firstMany, mod_asked, mod_pointIs) R.2.2 ∧ (f3.toInt < 0 → f3 = f ∧ (0 ≤ d1.toInt ∧ d1.toInt ≤ 9999 ∧ 0 ≤ l1.toInt ∧ l1.toInt ≤ 7) ∧ R.2.2 = (mod_suedBy, mod_suedOn, mod_endKind, mod_isWon, upd mod_suitDay x1.toNatClampNeg d1, upd mod_suitLand x1.toNatClampNeg l1, mod_askedMany, mod_firstMany, mod_asked, mod_pointIs)) := by
  have hpa := hp.1
  unfold f_X8_readTime B_X8_readTime_0 at h
  unfold M107t at k
  replace h := zk_o2 h
  obtain ⟨cu_1, cu_2, ch1, h⟩ := h
  rcases cb_expectN (n := 64) hT hf hp (by decide) ch1 with ⟨ck2, cq4, cq5, ck3⟩ | ⟨ck2, cq6, cq7⟩
  · replace cq4 := cq4.symm
    subst cq4
    replace cq5 := cq5.symm
    subst cq5
    have ck3a := ck3.1
    replace h := zk_o4 h
    obtain ⟨cr_4, cu_5, cu_6, cu_7, ch8, h⟩ := h
    rcases cb_numberN4 hT hf ck3 ch8 with ⟨ck9, cq11, cq12, cq13, cq14, ck10⟩ | ⟨ck9, cq15, cq16, cq17, cq18⟩
    · replace cq11 := cq11.symm
      subst cq11
      replace cq12 := cq12.symm
      subst cq12
      replace cq13 := cq13.symm
      subst cq13
      replace cq14 := cq14.symm
      subst cq14
      have ck10a := ck10.1
      have ck10b := nmv_b4 (ts := ts) (tb := tb) (at_ + 1)
      replace h := zk_o2 h
      obtain ⟨cu_9, cu_10, ch19, h⟩ := h
      rcases cb_expectN (n := 47) hT hf ck10 (by decide) ch19 with ⟨ck20, cq22, cq23, ck21⟩ | ⟨ck20, cq24, cq25⟩
      · replace cq22 := cq22.symm
        subst cq22
        replace cq23 := cq23.symm
        subst cq23
        have ck21a := ck21.1
        replace h := zk_o4 h
        obtain ⟨cr_12, cu_13, cu_14, cu_15, ch26, h⟩ := h
        rcases cb_numberD hT hf ck21 ch26 with ⟨ck27, cq29, cq30, cq31, cq32, ck28⟩ | ⟨ck27, cq33, cq34, cq35, cq36⟩
        · replace cq29 := cq29.symm
          subst cq29
          replace cq30 := cq30.symm
          subst cq30
          replace cq31 := cq31.symm
          subst cq31
          replace cq32 := cq32.symm
          subst cq32
          have ck28a := ck28.1
          have ck28b := nmv_b1 (ts := ts) (tb := tb) ((nma ts tb 4 (at_ + 1)) + 1)
          have ck28c := nm_1 ck27
          by_cases cc37 : (8 : Int32) ≤ (nmv ts tb 1 ((nma ts tb 4 (at_ + 1)) + 1))
          · replace h := zk_t cc37 h
            have cc37n := cc37
            (try simp only [i32_lt, i32_le, i32_e, z32_0, z32_1, z32L_4, z32L_8] at cc37n)
            unfold B_X8_readTime_45 at h
            replace h := zk_o1 h
            obtain ⟨cu_18, ch38, h⟩ := h
            obtain cq39 := cb_judge0N hf ch38
            replace cq39 := cq39.symm
            subst cq39
            simp only [Option.some.injEq, Prod.mk.injEq] at h
            obtain ⟨rfl, rfl, rfl, rfl, rfl⟩ := h
            have j := (cb_judgeP_of (ck21).1 j).symm
            subst j
            replace k := zk_o3 k
            obtain ⟨mr_54, mu_55, mu_56, mh1, k⟩ := k
            rcases mb_takesN (n := 64) hT hR hf hp (by decide) mh1 with ⟨mk2, mq4, mq5, mq6, mk3⟩ | ⟨mk2, _, _, _⟩
            · replace mq4 := mq4.symm
              subst mq4
              replace mq5 := mq5.symm
              subst mq5
              replace mq6 := mq6.symm
              subst mq6
              have mk3a := mk3.1
              replace k := zk_f (by decide) k
              replace k := zk_o3 k
              obtain ⟨mr_59, mu_60, mu_61, mh7, k⟩ := k
              rcases mb_number4 (m := 10000) hT hR hf mk3 (by decide) mh7 with ⟨mk8, mk9, mq11, mq12, mq13, mk10⟩ | ⟨mk8, mk9, _, _, _, mk10⟩ | ⟨mk8, _, _, _⟩
              · replace mq11 := mq11.symm
                subst mq11
                replace mq12 := mq12.symm
                subst mq12
                replace mq13 := mq13.symm
                subst mq13
                have mk10a := mk10.1
                have mk10b := nmv_b4 (ts := ts) (tb := tb) (at_ + 1)
                replace k := zk_gd k
                obtain ⟨_, k⟩ := k
                replace k := zk_lt k
                obtain ⟨mf_64, me14, k⟩ := k
                replace k := zk_o3 k
                obtain ⟨mr_65, mu_66, mu_67, mh15, k⟩ := k
                rcases mb_takesN (n := 47) hT hR hf mk10 (by decide) mh15 with ⟨mk16, mq18, mq19, mq20, mk17⟩ | ⟨mk16, _, _, _⟩
                · replace mq18 := mq18.symm
                  subst mq18
                  replace mq19 := mq19.symm
                  subst mq19
                  replace mq20 := mq20.symm
                  subst mq20
                  have mk17a := mk17.1
                  replace k := zk_f (by decide) k
                  replace k := zk_o3 k
                  obtain ⟨mr_70, mu_71, mu_72, mh21, k⟩ := k
                  rcases mb_numberD (m := 8) hT hR hf mk17 (by decide) mh21 with ⟨mk22, mk23, _, _, _, mk24⟩ | ⟨mk22, mk23, mq25, mq26, mq27, mk24⟩ | ⟨mk22, _, _, _⟩
                  · exfalso; omega
                  · replace mq25 := mq25.symm
                    subst mq25
                    replace mq26 := mq26.symm
                    subst mq26
                    replace mq27 := mq27.symm
                    subst mq27
                    have mk24a := mk24.1
                    have mk24b := nmv_b1 (ts := ts) (tb := tb) ((nma ts tb 4 (at_ + 1)) + 1)
                    replace k := zk_gd k
                    obtain ⟨_, k⟩ := k
                    replace k := zk_lt k
                    obtain ⟨mf_75, me28, k⟩ := k
                    replace k := zk_t (by rw [i32_le, z32_0]; omega) k
                    subst me14
                    subst me28
                    replace k := Option.some.inj k
                    rw [← k]
                    first | (exfalso; omega) | exact ⟨rfl, ⟨by intro j hj; first | rfl | exact upd_n hj | exact (upd_n hj).trans (upd_n hj), by intro j hj; first | rfl | exact upd_n hj | exact (upd_n hj).trans (upd_n hj), by intro j hj; first | rfl | exact upd_n hj | exact (upd_n hj).trans (upd_n hj), by intro j hj; first | rfl | exact upd_n hj | exact (upd_n hj).trans (upd_n hj), by intro j hj; first | rfl | exact upd_n hj | exact (upd_n hj).trans (upd_n hj), by intro j hj; first | rfl | exact upd_n hj | exact (upd_n hj).trans (upd_n hj), by intro j hj; first | rfl | exact upd_n hj | exact (upd_n hj).trans (upd_n hj), by intro j hj; first | rfl | exact upd_n hj | exact (upd_n hj).trans (upd_n hj), fun _ _ => rfl, fun _ _ => rfl⟩, fun z => absurd z (by omega)⟩ | exact ⟨rfl, ⟨by intro j hj; first | rfl | exact upd_n hj | exact (upd_n hj).trans (upd_n hj), by intro j hj; first | rfl | exact upd_n hj | exact (upd_n hj).trans (upd_n hj), by intro j hj; first | rfl | exact upd_n hj | exact (upd_n hj).trans (upd_n hj), by intro j hj; first | rfl | exact upd_n hj | exact (upd_n hj).trans (upd_n hj), by intro j hj; first | rfl | exact upd_n hj | exact (upd_n hj).trans (upd_n hj), by intro j hj; first | rfl | exact upd_n hj | exact (upd_n hj).trans (upd_n hj), by intro j hj; first | rfl | exact upd_n hj | exact (upd_n hj).trans (upd_n hj), by intro j hj; first | rfl | exact upd_n hj | exact (upd_n hj).trans (upd_n hj), fun _ _ => rfl, fun _ _ => rfl⟩, fun _ => ⟨rfl, by omega, rfl⟩⟩
                  · exact (zx_2 ck27 mk22).elim
                · exact (mk16 ck20).elim
              · exfalso; omega
              · exact (zx_2 ck9 mk8).elim
            · exact (mk2 ck2).elim
          · replace h := zk_f cc37 h
            have cc37n := cc37
            (try simp only [i32_lt, i32_le, i32_e, z32_0, z32_1, z32L_4, z32L_8] at cc37n)
            unfold B_X8_readTime_45 at h
            replace h := zk_o1 h
            obtain ⟨cu_18, ch40, h⟩ := h
            obtain cq41 := cb_judge1 ch40
            replace cq41 := cq41.symm
            subst cq41
            simp only [Option.some.injEq, Prod.mk.injEq] at h
            obtain ⟨rfl, rfl, rfl, rfl, rfl⟩ := h
            by_cases ce : (((nma ts tb 4 (at_ + 1)) + 1) + 1) < ts
            · have j := (j.1 ce)
              have j := (cb_judge0N hf j).symm
              subst j
              rw [i32_lt] at ce
              replace k := zk_o3 k
              obtain ⟨mr_54, mu_55, mu_56, mh29, k⟩ := k
              rcases mb_takesN (n := 64) hT hR hf hp (by decide) mh29 with ⟨mk30, mq32, mq33, mq34, mk31⟩ | ⟨mk30, _, _, _⟩
              · replace mq32 := mq32.symm
                subst mq32
                replace mq33 := mq33.symm
                subst mq33
                replace mq34 := mq34.symm
                subst mq34
                have mk31a := mk31.1
                replace k := zk_f (by decide) k
                replace k := zk_o3 k
                obtain ⟨mr_59, mu_60, mu_61, mh35, k⟩ := k
                rcases mb_number4 (m := 10000) hT hR hf mk31 (by decide) mh35 with ⟨mk36, mk37, mq39, mq40, mq41, mk38⟩ | ⟨mk36, mk37, _, _, _, mk38⟩ | ⟨mk36, _, _, _⟩
                · replace mq39 := mq39.symm
                  subst mq39
                  replace mq40 := mq40.symm
                  subst mq40
                  replace mq41 := mq41.symm
                  subst mq41
                  have mk38a := mk38.1
                  have mk38b := nmv_b4 (ts := ts) (tb := tb) (at_ + 1)
                  replace k := zk_gd k
                  obtain ⟨_, k⟩ := k
                  replace k := zk_lt k
                  obtain ⟨mf_64, me42, k⟩ := k
                  replace k := zk_o3 k
                  obtain ⟨mr_65, mu_66, mu_67, mh43, k⟩ := k
                  rcases mb_takesN (n := 47) hT hR hf mk38 (by decide) mh43 with ⟨mk44, mq46, mq47, mq48, mk45⟩ | ⟨mk44, _, _, _⟩
                  · replace mq46 := mq46.symm
                    subst mq46
                    replace mq47 := mq47.symm
                    subst mq47
                    replace mq48 := mq48.symm
                    subst mq48
                    have mk45a := mk45.1
                    replace k := zk_f (by decide) k
                    replace k := zk_o3 k
                    obtain ⟨mr_70, mu_71, mu_72, mh49, k⟩ := k
                    rcases mb_numberD (m := 8) hT hR hf mk45 (by decide) mh49 with ⟨mk50, mk51, mq53, mq54, mq55, mk52⟩ | ⟨mk50, mk51, _, _, _, mk52⟩ | ⟨mk50, _, _, _⟩
                    · replace mq53 := mq53.symm
                      subst mq53
                      replace mq54 := mq54.symm
                      subst mq54
                      replace mq55 := mq55.symm
                      subst mq55
                      have mk52a := mk52.1
                      have mk52b := nmv_b1 (ts := ts) (tb := tb) ((nma ts tb 4 (at_ + 1)) + 1)
                      replace k := zk_gd k
                      obtain ⟨_, k⟩ := k
                      replace k := zk_lt k
                      obtain ⟨mf_75, me56, k⟩ := k
                      replace k := zk_f (by rw [i32_le, z32_0]; omega) k
                      by_cases mc57 : ts ≤ (((nma ts tb 4 (at_ + 1)) + 1) + 1)
                      · replace k := zk_t mc57 k
                        have mc57n := mc57
                        (try simp only [i32_lt, i32_le, i32_e, z32_0, z32_1, z32L_4] at mc57n)
                        subst me42
                        subst me56
                        replace k := Option.some.inj k
                        rw [← k]
                        first | (exfalso; omega) | exact ⟨rfl, ⟨by intro j hj; first | rfl | exact upd_n hj | exact (upd_n hj).trans (upd_n hj), by intro j hj; first | rfl | exact upd_n hj | exact (upd_n hj).trans (upd_n hj), by intro j hj; first | rfl | exact upd_n hj | exact (upd_n hj).trans (upd_n hj), by intro j hj; first | rfl | exact upd_n hj | exact (upd_n hj).trans (upd_n hj), by intro j hj; first | rfl | exact upd_n hj | exact (upd_n hj).trans (upd_n hj), by intro j hj; first | rfl | exact upd_n hj | exact (upd_n hj).trans (upd_n hj), by intro j hj; first | rfl | exact upd_n hj | exact (upd_n hj).trans (upd_n hj), by intro j hj; first | rfl | exact upd_n hj | exact (upd_n hj).trans (upd_n hj), fun _ _ => rfl, fun _ _ => rfl⟩, fun z => absurd z (by omega)⟩ | exact ⟨rfl, ⟨by intro j hj; first | rfl | exact upd_n hj | exact (upd_n hj).trans (upd_n hj), by intro j hj; first | rfl | exact upd_n hj | exact (upd_n hj).trans (upd_n hj), by intro j hj; first | rfl | exact upd_n hj | exact (upd_n hj).trans (upd_n hj), by intro j hj; first | rfl | exact upd_n hj | exact (upd_n hj).trans (upd_n hj), by intro j hj; first | rfl | exact upd_n hj | exact (upd_n hj).trans (upd_n hj), by intro j hj; first | rfl | exact upd_n hj | exact (upd_n hj).trans (upd_n hj), by intro j hj; first | rfl | exact upd_n hj | exact (upd_n hj).trans (upd_n hj), by intro j hj; first | rfl | exact upd_n hj | exact (upd_n hj).trans (upd_n hj), fun _ _ => rfl, fun _ _ => rfl⟩, fun _ => ⟨rfl, by omega, rfl⟩⟩
                      · replace k := zk_f mc57 k
                        have mc57n := mc57
                        (try simp only [i32_lt, i32_le, i32_e, z32_0, z32_1, z32L_4] at mc57n)
                        replace k := zk_o1 k
                        obtain ⟨mu_78, mh58, k⟩ := k
                        obtain mq59 := mb_wrongN hf mh58
                        replace mq59 := mq59.symm
                        subst mq59
                        subst me42
                        subst me56
                        replace k := Option.some.inj k
                        rw [← k]
                        first | (exfalso; omega) | exact ⟨rfl, ⟨by intro j hj; first | rfl | exact upd_n hj | exact (upd_n hj).trans (upd_n hj), by intro j hj; first | rfl | exact upd_n hj | exact (upd_n hj).trans (upd_n hj), by intro j hj; first | rfl | exact upd_n hj | exact (upd_n hj).trans (upd_n hj), by intro j hj; first | rfl | exact upd_n hj | exact (upd_n hj).trans (upd_n hj), by intro j hj; first | rfl | exact upd_n hj | exact (upd_n hj).trans (upd_n hj), by intro j hj; first | rfl | exact upd_n hj | exact (upd_n hj).trans (upd_n hj), by intro j hj; first | rfl | exact upd_n hj | exact (upd_n hj).trans (upd_n hj), by intro j hj; first | rfl | exact upd_n hj | exact (upd_n hj).trans (upd_n hj), fun _ _ => rfl, fun _ _ => rfl⟩, fun z => absurd z (by omega)⟩ | exact ⟨rfl, ⟨by intro j hj; first | rfl | exact upd_n hj | exact (upd_n hj).trans (upd_n hj), by intro j hj; first | rfl | exact upd_n hj | exact (upd_n hj).trans (upd_n hj), by intro j hj; first | rfl | exact upd_n hj | exact (upd_n hj).trans (upd_n hj), by intro j hj; first | rfl | exact upd_n hj | exact (upd_n hj).trans (upd_n hj), by intro j hj; first | rfl | exact upd_n hj | exact (upd_n hj).trans (upd_n hj), by intro j hj; first | rfl | exact upd_n hj | exact (upd_n hj).trans (upd_n hj), by intro j hj; first | rfl | exact upd_n hj | exact (upd_n hj).trans (upd_n hj), by intro j hj; first | rfl | exact upd_n hj | exact (upd_n hj).trans (upd_n hj), fun _ _ => rfl, fun _ _ => rfl⟩, fun _ => ⟨rfl, by omega, rfl⟩⟩
                    · exfalso; omega
                    · exact (zx_2 ck27 mk50).elim
                  · exact (mk44 ck20).elim
                · exfalso; omega
                · exact (zx_2 ck9 mk36).elim
              · exact (mk30 ck2).elim
            · have j := (j.2 ce)
              have j := (cb_judge1 j).symm
              subst j
              rw [i32_lt] at ce
              replace k := zk_o3 k
              obtain ⟨mr_54, mu_55, mu_56, mh60, k⟩ := k
              rcases mb_takesN (n := 64) hT hR hf hp (by decide) mh60 with ⟨mk61, mq63, mq64, mq65, mk62⟩ | ⟨mk61, _, _, _⟩
              · replace mq63 := mq63.symm
                subst mq63
                replace mq64 := mq64.symm
                subst mq64
                replace mq65 := mq65.symm
                subst mq65
                have mk62a := mk62.1
                replace k := zk_f (by decide) k
                replace k := zk_o3 k
                obtain ⟨mr_59, mu_60, mu_61, mh66, k⟩ := k
                rcases mb_number4 (m := 10000) hT hR hf mk62 (by decide) mh66 with ⟨mk67, mk68, mq70, mq71, mq72, mk69⟩ | ⟨mk67, mk68, _, _, _, mk69⟩ | ⟨mk67, _, _, _⟩
                · replace mq70 := mq70.symm
                  subst mq70
                  replace mq71 := mq71.symm
                  subst mq71
                  replace mq72 := mq72.symm
                  subst mq72
                  have mk69a := mk69.1
                  have mk69b := nmv_b4 (ts := ts) (tb := tb) (at_ + 1)
                  replace k := zk_gd k
                  obtain ⟨_, k⟩ := k
                  replace k := zk_lt k
                  obtain ⟨mf_64, me73, k⟩ := k
                  replace k := zk_o3 k
                  obtain ⟨mr_65, mu_66, mu_67, mh74, k⟩ := k
                  rcases mb_takesN (n := 47) hT hR hf mk69 (by decide) mh74 with ⟨mk75, mq77, mq78, mq79, mk76⟩ | ⟨mk75, _, _, _⟩
                  · replace mq77 := mq77.symm
                    subst mq77
                    replace mq78 := mq78.symm
                    subst mq78
                    replace mq79 := mq79.symm
                    subst mq79
                    have mk76a := mk76.1
                    replace k := zk_f (by decide) k
                    replace k := zk_o3 k
                    obtain ⟨mr_70, mu_71, mu_72, mh80, k⟩ := k
                    rcases mb_numberD (m := 8) hT hR hf mk76 (by decide) mh80 with ⟨mk81, mk82, mq84, mq85, mq86, mk83⟩ | ⟨mk81, mk82, _, _, _, mk83⟩ | ⟨mk81, _, _, _⟩
                    · replace mq84 := mq84.symm
                      subst mq84
                      replace mq85 := mq85.symm
                      subst mq85
                      replace mq86 := mq86.symm
                      subst mq86
                      have mk83a := mk83.1
                      have mk83b := nmv_b1 (ts := ts) (tb := tb) ((nma ts tb 4 (at_ + 1)) + 1)
                      replace k := zk_gd k
                      obtain ⟨_, k⟩ := k
                      replace k := zk_lt k
                      obtain ⟨mf_75, me87, k⟩ := k
                      replace k := zk_f (by rw [i32_le, z32_0]; omega) k
                      by_cases mc88 : ts ≤ (((nma ts tb 4 (at_ + 1)) + 1) + 1)
                      · replace k := zk_t mc88 k
                        have mc88n := mc88
                        (try simp only [i32_lt, i32_le, i32_e, z32_0, z32_1, z32L_4] at mc88n)
                        subst me73
                        subst me87
                        replace k := Option.some.inj k
                        rw [← k]
                        first | (exfalso; omega) | exact ⟨rfl, ⟨by intro j hj; first | rfl | exact upd_n hj | exact (upd_n hj).trans (upd_n hj), by intro j hj; first | rfl | exact upd_n hj | exact (upd_n hj).trans (upd_n hj), by intro j hj; first | rfl | exact upd_n hj | exact (upd_n hj).trans (upd_n hj), by intro j hj; first | rfl | exact upd_n hj | exact (upd_n hj).trans (upd_n hj), by intro j hj; first | rfl | exact upd_n hj | exact (upd_n hj).trans (upd_n hj), by intro j hj; first | rfl | exact upd_n hj | exact (upd_n hj).trans (upd_n hj), by intro j hj; first | rfl | exact upd_n hj | exact (upd_n hj).trans (upd_n hj), by intro j hj; first | rfl | exact upd_n hj | exact (upd_n hj).trans (upd_n hj), fun _ _ => rfl, fun _ _ => rfl⟩, fun z => absurd z (by omega)⟩ | exact ⟨rfl, ⟨by intro j hj; first | rfl | exact upd_n hj | exact (upd_n hj).trans (upd_n hj), by intro j hj; first | rfl | exact upd_n hj | exact (upd_n hj).trans (upd_n hj), by intro j hj; first | rfl | exact upd_n hj | exact (upd_n hj).trans (upd_n hj), by intro j hj; first | rfl | exact upd_n hj | exact (upd_n hj).trans (upd_n hj), by intro j hj; first | rfl | exact upd_n hj | exact (upd_n hj).trans (upd_n hj), by intro j hj; first | rfl | exact upd_n hj | exact (upd_n hj).trans (upd_n hj), by intro j hj; first | rfl | exact upd_n hj | exact (upd_n hj).trans (upd_n hj), by intro j hj; first | rfl | exact upd_n hj | exact (upd_n hj).trans (upd_n hj), fun _ _ => rfl, fun _ _ => rfl⟩, fun _ => ⟨rfl, by omega, rfl⟩⟩
                      · replace k := zk_f mc88 k
                        have mc88n := mc88
                        (try simp only [i32_lt, i32_le, i32_e, z32_0, z32_1, z32L_4] at mc88n)
                        replace k := zk_o1 k
                        obtain ⟨mu_78, mh89, k⟩ := k
                        obtain mq90 := mb_wrongN hf mh89
                        replace mq90 := mq90.symm
                        subst mq90
                        subst me73
                        subst me87
                        replace k := Option.some.inj k
                        rw [← k]
                        first | (exfalso; omega) | exact ⟨rfl, ⟨by intro j hj; first | rfl | exact upd_n hj | exact (upd_n hj).trans (upd_n hj), by intro j hj; first | rfl | exact upd_n hj | exact (upd_n hj).trans (upd_n hj), by intro j hj; first | rfl | exact upd_n hj | exact (upd_n hj).trans (upd_n hj), by intro j hj; first | rfl | exact upd_n hj | exact (upd_n hj).trans (upd_n hj), by intro j hj; first | rfl | exact upd_n hj | exact (upd_n hj).trans (upd_n hj), by intro j hj; first | rfl | exact upd_n hj | exact (upd_n hj).trans (upd_n hj), by intro j hj; first | rfl | exact upd_n hj | exact (upd_n hj).trans (upd_n hj), by intro j hj; first | rfl | exact upd_n hj | exact (upd_n hj).trans (upd_n hj), fun _ _ => rfl, fun _ _ => rfl⟩, fun z => absurd z (by omega)⟩ | exact ⟨rfl, ⟨by intro j hj; first | rfl | exact upd_n hj | exact (upd_n hj).trans (upd_n hj), by intro j hj; first | rfl | exact upd_n hj | exact (upd_n hj).trans (upd_n hj), by intro j hj; first | rfl | exact upd_n hj | exact (upd_n hj).trans (upd_n hj), by intro j hj; first | rfl | exact upd_n hj | exact (upd_n hj).trans (upd_n hj), by intro j hj; first | rfl | exact upd_n hj | exact (upd_n hj).trans (upd_n hj), by intro j hj; first | rfl | exact upd_n hj | exact (upd_n hj).trans (upd_n hj), by intro j hj; first | rfl | exact upd_n hj | exact (upd_n hj).trans (upd_n hj), by intro j hj; first | rfl | exact upd_n hj | exact (upd_n hj).trans (upd_n hj), fun _ _ => rfl, fun _ _ => rfl⟩, fun _ => ⟨rfl, by omega, rfl⟩⟩
                    · exfalso; omega
                    · exact (zx_2 ck27 mk81).elim
                  · exact (mk75 ck20).elim
                · exfalso; omega
                · exact (zx_2 ck9 mk67).elim
              · exact (mk61 ck2).elim
        · replace cq33 := cq33.symm
          subst cq33
          replace cq34 := cq34.symm
          subst cq34
          replace cq35 := cq35.symm
          subst cq35
          replace cq36 := cq36.symm
          subst cq36
          replace h := zk_f (by decide) h
          unfold B_X8_readTime_45 at h
          replace h := zk_o1 h
          obtain ⟨cu_18, ch42, h⟩ := h
          obtain cq43 := cb_judgeP (ck21).1 ch42
          replace cq43 := cq43.symm
          subst cq43
          simp only [Option.some.injEq, Prod.mk.injEq] at h
          obtain ⟨rfl, rfl, rfl, rfl, rfl⟩ := h
          have j := (cb_judgeP_of (ck21).1 j).symm
          subst j
          replace k := zk_o3 k
          obtain ⟨mr_54, mu_55, mu_56, mh91, k⟩ := k
          rcases mb_takesN (n := 64) hT hR hf hp (by decide) mh91 with ⟨mk92, mq94, mq95, mq96, mk93⟩ | ⟨mk92, _, _, _⟩
          · replace mq94 := mq94.symm
            subst mq94
            replace mq95 := mq95.symm
            subst mq95
            replace mq96 := mq96.symm
            subst mq96
            have mk93a := mk93.1
            replace k := zk_f (by decide) k
            replace k := zk_o3 k
            obtain ⟨mr_59, mu_60, mu_61, mh97, k⟩ := k
            rcases mb_number4 (m := 10000) hT hR hf mk93 (by decide) mh97 with ⟨mk98, mk99, mq101, mq102, mq103, mk100⟩ | ⟨mk98, mk99, _, _, _, mk100⟩ | ⟨mk98, _, _, _⟩
            · replace mq101 := mq101.symm
              subst mq101
              replace mq102 := mq102.symm
              subst mq102
              replace mq103 := mq103.symm
              subst mq103
              have mk100a := mk100.1
              have mk100b := nmv_b4 (ts := ts) (tb := tb) (at_ + 1)
              replace k := zk_gd k
              obtain ⟨_, k⟩ := k
              replace k := zk_lt k
              obtain ⟨mf_64, me104, k⟩ := k
              replace k := zk_o3 k
              obtain ⟨mr_65, mu_66, mu_67, mh105, k⟩ := k
              rcases mb_takesN (n := 47) hT hR hf mk100 (by decide) mh105 with ⟨mk106, mq108, mq109, mq110, mk107⟩ | ⟨mk106, _, _, _⟩
              · replace mq108 := mq108.symm
                subst mq108
                replace mq109 := mq109.symm
                subst mq109
                replace mq110 := mq110.symm
                subst mq110
                have mk107a := mk107.1
                replace k := zk_f (by decide) k
                replace k := zk_o3 k
                obtain ⟨mr_70, mu_71, mu_72, mh111, k⟩ := k
                rcases mb_numberD (m := 8) hT hR hf mk107 (by decide) mh111 with ⟨mk112, mk113, _, _, _, mk114⟩ | ⟨mk112, mk113, _, _, _, mk114⟩ | ⟨mk112, mq115, mq116, mq117⟩
                · exact (zx_2 mk112 ck27).elim
                · exact (zx_2 mk112 ck27).elim
                · replace mq115 := mq115.symm
                  subst mq115
                  replace mq116 := mq116.symm
                  subst mq116
                  replace mq117 := mq117.symm
                  subst mq117
                  replace k := zk_gd k
                  obtain ⟨_, k⟩ := k
                  replace k := zk_lt k
                  obtain ⟨mf_75, me118, k⟩ := k
                  replace k := zk_t (by rw [i32_le, z32_0]; omega) k
                  subst me104
                  subst me118
                  replace k := Option.some.inj k
                  rw [← k]
                  first | (exfalso; omega) | exact ⟨rfl, ⟨by intro j hj; first | rfl | exact upd_n hj | exact (upd_n hj).trans (upd_n hj), by intro j hj; first | rfl | exact upd_n hj | exact (upd_n hj).trans (upd_n hj), by intro j hj; first | rfl | exact upd_n hj | exact (upd_n hj).trans (upd_n hj), by intro j hj; first | rfl | exact upd_n hj | exact (upd_n hj).trans (upd_n hj), by intro j hj; first | rfl | exact upd_n hj | exact (upd_n hj).trans (upd_n hj), by intro j hj; first | rfl | exact upd_n hj | exact (upd_n hj).trans (upd_n hj), by intro j hj; first | rfl | exact upd_n hj | exact (upd_n hj).trans (upd_n hj), by intro j hj; first | rfl | exact upd_n hj | exact (upd_n hj).trans (upd_n hj), fun _ _ => rfl, fun _ _ => rfl⟩, fun z => absurd z (by omega)⟩ | exact ⟨rfl, ⟨by intro j hj; first | rfl | exact upd_n hj | exact (upd_n hj).trans (upd_n hj), by intro j hj; first | rfl | exact upd_n hj | exact (upd_n hj).trans (upd_n hj), by intro j hj; first | rfl | exact upd_n hj | exact (upd_n hj).trans (upd_n hj), by intro j hj; first | rfl | exact upd_n hj | exact (upd_n hj).trans (upd_n hj), by intro j hj; first | rfl | exact upd_n hj | exact (upd_n hj).trans (upd_n hj), by intro j hj; first | rfl | exact upd_n hj | exact (upd_n hj).trans (upd_n hj), by intro j hj; first | rfl | exact upd_n hj | exact (upd_n hj).trans (upd_n hj), by intro j hj; first | rfl | exact upd_n hj | exact (upd_n hj).trans (upd_n hj), fun _ _ => rfl, fun _ _ => rfl⟩, fun _ => ⟨rfl, by omega, rfl⟩⟩
              · exact (mk106 ck20).elim
            · exfalso; omega
            · exact (zx_2 ck9 mk98).elim
          · exact (mk92 ck2).elim
      · replace cq24 := cq24.symm
        subst cq24
        replace cq25 := cq25.symm
        subst cq25
        replace h := zk_o4 h
        obtain ⟨cr_12, cu_13, cu_14, cu_15, ch44, h⟩ := h
        obtain ⟨cq45, cq46, cq47, cq48⟩ := cb_numberP1 (ck10).1 ch44
        replace cq45 := cq45.symm
        subst cq45
        replace cq46 := cq46.symm
        subst cq46
        replace cq47 := cq47.symm
        subst cq47
        replace cq48 := cq48.symm
        subst cq48
        replace h := zk_f (by decide) h
        unfold B_X8_readTime_45 at h
        replace h := zk_o1 h
        obtain ⟨cu_18, ch49, h⟩ := h
        obtain cq50 := cb_judgeP (ck10).1 ch49
        replace cq50 := cq50.symm
        subst cq50
        simp only [Option.some.injEq, Prod.mk.injEq] at h
        obtain ⟨rfl, rfl, rfl, rfl, rfl⟩ := h
        have j := (cb_judgeP_of (ck10).1 j).symm
        subst j
        replace k := zk_o3 k
        obtain ⟨mr_54, mu_55, mu_56, mh119, k⟩ := k
        rcases mb_takesN (n := 64) hT hR hf hp (by decide) mh119 with ⟨mk120, mq122, mq123, mq124, mk121⟩ | ⟨mk120, _, _, _⟩
        · replace mq122 := mq122.symm
          subst mq122
          replace mq123 := mq123.symm
          subst mq123
          replace mq124 := mq124.symm
          subst mq124
          have mk121a := mk121.1
          replace k := zk_f (by decide) k
          replace k := zk_o3 k
          obtain ⟨mr_59, mu_60, mu_61, mh125, k⟩ := k
          rcases mb_number4 (m := 10000) hT hR hf mk121 (by decide) mh125 with ⟨mk126, mk127, mq129, mq130, mq131, mk128⟩ | ⟨mk126, mk127, _, _, _, mk128⟩ | ⟨mk126, _, _, _⟩
          · replace mq129 := mq129.symm
            subst mq129
            replace mq130 := mq130.symm
            subst mq130
            replace mq131 := mq131.symm
            subst mq131
            have mk128a := mk128.1
            have mk128b := nmv_b4 (ts := ts) (tb := tb) (at_ + 1)
            replace k := zk_gd k
            obtain ⟨_, k⟩ := k
            replace k := zk_lt k
            obtain ⟨mf_64, me132, k⟩ := k
            replace k := zk_o3 k
            obtain ⟨mr_65, mu_66, mu_67, mh133, k⟩ := k
            rcases mb_takesN (n := 47) hT hR hf mk128 (by decide) mh133 with ⟨mk134, _, _, _, mk135⟩ | ⟨mk134, mq136, mq137, mq138⟩
            · exact (ck20 mk134).elim
            · replace mq136 := mq136.symm
              subst mq136
              replace mq137 := mq137.symm
              subst mq137
              replace mq138 := mq138.symm
              subst mq138
              replace k := zk_t (by decide) k
              subst me132
              replace k := Option.some.inj k
              rw [← k]
              first | (exfalso; omega) | exact ⟨rfl, ⟨by intro j hj; first | rfl | exact upd_n hj | exact (upd_n hj).trans (upd_n hj), by intro j hj; first | rfl | exact upd_n hj | exact (upd_n hj).trans (upd_n hj), by intro j hj; first | rfl | exact upd_n hj | exact (upd_n hj).trans (upd_n hj), by intro j hj; first | rfl | exact upd_n hj | exact (upd_n hj).trans (upd_n hj), by intro j hj; first | rfl | exact upd_n hj | exact (upd_n hj).trans (upd_n hj), by intro j hj; first | rfl | exact upd_n hj | exact (upd_n hj).trans (upd_n hj), by intro j hj; first | rfl | exact upd_n hj | exact (upd_n hj).trans (upd_n hj), by intro j hj; first | rfl | exact upd_n hj | exact (upd_n hj).trans (upd_n hj), fun _ _ => rfl, fun _ _ => rfl⟩, fun z => absurd z (by omega)⟩ | exact ⟨rfl, ⟨by intro j hj; first | rfl | exact upd_n hj | exact (upd_n hj).trans (upd_n hj), by intro j hj; first | rfl | exact upd_n hj | exact (upd_n hj).trans (upd_n hj), by intro j hj; first | rfl | exact upd_n hj | exact (upd_n hj).trans (upd_n hj), by intro j hj; first | rfl | exact upd_n hj | exact (upd_n hj).trans (upd_n hj), by intro j hj; first | rfl | exact upd_n hj | exact (upd_n hj).trans (upd_n hj), by intro j hj; first | rfl | exact upd_n hj | exact (upd_n hj).trans (upd_n hj), by intro j hj; first | rfl | exact upd_n hj | exact (upd_n hj).trans (upd_n hj), by intro j hj; first | rfl | exact upd_n hj | exact (upd_n hj).trans (upd_n hj), fun _ _ => rfl, fun _ _ => rfl⟩, fun _ => ⟨rfl, by omega, rfl⟩⟩
          · exfalso; omega
          · exact (zx_2 ck9 mk126).elim
        · exact (mk120 ck2).elim
    · replace cq15 := cq15.symm
      subst cq15
      replace cq16 := cq16.symm
      subst cq16
      replace cq17 := cq17.symm
      subst cq17
      replace cq18 := cq18.symm
      subst cq18
      replace h := zk_o2 h
      obtain ⟨cu_9, cu_10, ch51, h⟩ := h
      obtain ⟨cq52, cq53⟩ := cb_expectP (ck3).1 ch51
      replace cq52 := cq52.symm
      subst cq52
      replace cq53 := cq53.symm
      subst cq53
      replace h := zk_o4 h
      obtain ⟨cr_12, cu_13, cu_14, cu_15, ch54, h⟩ := h
      obtain ⟨cq55, cq56, cq57, cq58⟩ := cb_numberP1 (ck3).1 ch54
      replace cq55 := cq55.symm
      subst cq55
      replace cq56 := cq56.symm
      subst cq56
      replace cq57 := cq57.symm
      subst cq57
      replace cq58 := cq58.symm
      subst cq58
      replace h := zk_f (by decide) h
      unfold B_X8_readTime_45 at h
      replace h := zk_o1 h
      obtain ⟨cu_18, ch59, h⟩ := h
      obtain cq60 := cb_judgeP (ck3).1 ch59
      replace cq60 := cq60.symm
      subst cq60
      simp only [Option.some.injEq, Prod.mk.injEq] at h
      obtain ⟨rfl, rfl, rfl, rfl, rfl⟩ := h
      have j := (cb_judgeP_of (ck3).1 j).symm
      subst j
      replace k := zk_o3 k
      obtain ⟨mr_54, mu_55, mu_56, mh139, k⟩ := k
      rcases mb_takesN (n := 64) hT hR hf hp (by decide) mh139 with ⟨mk140, mq142, mq143, mq144, mk141⟩ | ⟨mk140, _, _, _⟩
      · replace mq142 := mq142.symm
        subst mq142
        replace mq143 := mq143.symm
        subst mq143
        replace mq144 := mq144.symm
        subst mq144
        have mk141a := mk141.1
        replace k := zk_f (by decide) k
        replace k := zk_o3 k
        obtain ⟨mr_59, mu_60, mu_61, mh145, k⟩ := k
        rcases mb_number4 (m := 10000) hT hR hf mk141 (by decide) mh145 with ⟨mk146, mk147, _, _, _, mk148⟩ | ⟨mk146, mk147, _, _, _, mk148⟩ | ⟨mk146, mq149, mq150, mq151⟩
        · exact (zx_2 mk146 ck9).elim
        · exact (zx_2 mk146 ck9).elim
        · replace mq149 := mq149.symm
          subst mq149
          replace mq150 := mq150.symm
          subst mq150
          replace mq151 := mq151.symm
          subst mq151
          replace k := zk_gd k
          obtain ⟨_, k⟩ := k
          replace k := zk_lt k
          obtain ⟨mf_64, me152, k⟩ := k
          replace k := zk_o3 k
          obtain ⟨mr_65, mu_66, mu_67, mh153, k⟩ := k
          obtain ⟨mq154, mq155, mq156⟩ := mb_takesP (mk141).1 mh153
          replace mq154 := mq154.symm
          subst mq154
          replace mq155 := mq155.symm
          subst mq155
          replace mq156 := mq156.symm
          subst mq156
          replace k := zk_t (by decide) k
          subst me152
          replace k := Option.some.inj k
          rw [← k]
          first | (exfalso; omega) | exact ⟨rfl, ⟨by intro j hj; first | rfl | exact upd_n hj | exact (upd_n hj).trans (upd_n hj), by intro j hj; first | rfl | exact upd_n hj | exact (upd_n hj).trans (upd_n hj), by intro j hj; first | rfl | exact upd_n hj | exact (upd_n hj).trans (upd_n hj), by intro j hj; first | rfl | exact upd_n hj | exact (upd_n hj).trans (upd_n hj), by intro j hj; first | rfl | exact upd_n hj | exact (upd_n hj).trans (upd_n hj), by intro j hj; first | rfl | exact upd_n hj | exact (upd_n hj).trans (upd_n hj), by intro j hj; first | rfl | exact upd_n hj | exact (upd_n hj).trans (upd_n hj), by intro j hj; first | rfl | exact upd_n hj | exact (upd_n hj).trans (upd_n hj), fun _ _ => rfl, fun _ _ => rfl⟩, fun z => absurd z (by omega)⟩ | exact ⟨rfl, ⟨by intro j hj; first | rfl | exact upd_n hj | exact (upd_n hj).trans (upd_n hj), by intro j hj; first | rfl | exact upd_n hj | exact (upd_n hj).trans (upd_n hj), by intro j hj; first | rfl | exact upd_n hj | exact (upd_n hj).trans (upd_n hj), by intro j hj; first | rfl | exact upd_n hj | exact (upd_n hj).trans (upd_n hj), by intro j hj; first | rfl | exact upd_n hj | exact (upd_n hj).trans (upd_n hj), by intro j hj; first | rfl | exact upd_n hj | exact (upd_n hj).trans (upd_n hj), by intro j hj; first | rfl | exact upd_n hj | exact (upd_n hj).trans (upd_n hj), by intro j hj; first | rfl | exact upd_n hj | exact (upd_n hj).trans (upd_n hj), fun _ _ => rfl, fun _ _ => rfl⟩, fun _ => ⟨rfl, by omega, rfl⟩⟩
      · exact (mk140 ck2).elim
  · replace cq6 := cq6.symm
    subst cq6
    replace cq7 := cq7.symm
    subst cq7
    replace h := zk_o4 h
    obtain ⟨cr_4, cu_5, cu_6, cu_7, ch61, h⟩ := h
    obtain ⟨cq62, cq63, cq64, cq65⟩ := cb_numberP4 (hp).1 ch61
    replace cq62 := cq62.symm
    subst cq62
    replace cq63 := cq63.symm
    subst cq63
    replace cq64 := cq64.symm
    subst cq64
    replace cq65 := cq65.symm
    subst cq65
    replace h := zk_o2 h
    obtain ⟨cu_9, cu_10, ch66, h⟩ := h
    obtain ⟨cq67, cq68⟩ := cb_expectP (hp).1 ch66
    replace cq67 := cq67.symm
    subst cq67
    replace cq68 := cq68.symm
    subst cq68
    replace h := zk_o4 h
    obtain ⟨cr_12, cu_13, cu_14, cu_15, ch69, h⟩ := h
    obtain ⟨cq70, cq71, cq72, cq73⟩ := cb_numberP1 (hp).1 ch69
    replace cq70 := cq70.symm
    subst cq70
    replace cq71 := cq71.symm
    subst cq71
    replace cq72 := cq72.symm
    subst cq72
    replace cq73 := cq73.symm
    subst cq73
    replace h := zk_f (by decide) h
    unfold B_X8_readTime_45 at h
    replace h := zk_o1 h
    obtain ⟨cu_18, ch74, h⟩ := h
    obtain cq75 := cb_judgeP (hp).1 ch74
    replace cq75 := cq75.symm
    subst cq75
    simp only [Option.some.injEq, Prod.mk.injEq] at h
    obtain ⟨rfl, rfl, rfl, rfl, rfl⟩ := h
    have j := (cb_judgeP_of (hp).1 j).symm
    subst j
    replace k := zk_o3 k
    obtain ⟨mr_54, mu_55, mu_56, mh157, k⟩ := k
    rcases mb_takesN (n := 64) hT hR hf hp (by decide) mh157 with ⟨mk158, _, _, _, mk159⟩ | ⟨mk158, mq160, mq161, mq162⟩
    · exact (ck2 mk158).elim
    · replace mq160 := mq160.symm
      subst mq160
      replace mq161 := mq161.symm
      subst mq161
      replace mq162 := mq162.symm
      subst mq162
      replace k := zk_t (by decide) k
      replace k := Option.some.inj k
      rw [← k]
      first | (exfalso; omega) | exact ⟨rfl, ⟨by intro j hj; first | rfl | exact upd_n hj | exact (upd_n hj).trans (upd_n hj), by intro j hj; first | rfl | exact upd_n hj | exact (upd_n hj).trans (upd_n hj), by intro j hj; first | rfl | exact upd_n hj | exact (upd_n hj).trans (upd_n hj), by intro j hj; first | rfl | exact upd_n hj | exact (upd_n hj).trans (upd_n hj), by intro j hj; first | rfl | exact upd_n hj | exact (upd_n hj).trans (upd_n hj), by intro j hj; first | rfl | exact upd_n hj | exact (upd_n hj).trans (upd_n hj), by intro j hj; first | rfl | exact upd_n hj | exact (upd_n hj).trans (upd_n hj), by intro j hj; first | rfl | exact upd_n hj | exact (upd_n hj).trans (upd_n hj), fun _ _ => rfl, fun _ _ => rfl⟩, fun z => absurd z (by omega)⟩ | exact ⟨rfl, ⟨by intro j hj; first | rfl | exact upd_n hj | exact (upd_n hj).trans (upd_n hj), by intro j hj; first | rfl | exact upd_n hj | exact (upd_n hj).trans (upd_n hj), by intro j hj; first | rfl | exact upd_n hj | exact (upd_n hj).trans (upd_n hj), by intro j hj; first | rfl | exact upd_n hj | exact (upd_n hj).trans (upd_n hj), by intro j hj; first | rfl | exact upd_n hj | exact (upd_n hj).trans (upd_n hj), by intro j hj; first | rfl | exact upd_n hj | exact (upd_n hj).trans (upd_n hj), by intro j hj; first | rfl | exact upd_n hj | exact (upd_n hj).trans (upd_n hj), by intro j hj; first | rfl | exact upd_n hj | exact (upd_n hj).trans (upd_n hj), fun _ _ => rfl, fun _ _ => rfl⟩, fun _ => ⟨rfl, by omega, rfl⟩⟩
