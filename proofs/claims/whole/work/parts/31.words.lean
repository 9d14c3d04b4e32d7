theorem k_D_type : q_hd y_D_type m_D_type ∈ lw_tbl ∧ Cond.initialized y_D_type.cls ∈ lw_tbl := ⟨q_tb 183 (by decide +kernel), q_tb 1 (by decide +kernel)⟩
theorem ms_D_type : Cond.instanceMethod y_D_type ∈ lw_tbl ∧ Cond.selects y_D_type.cls y_D_type y_D_type ∈ lw_tbl := ⟨q_tb 181 (by decide +kernel), q_tb 182 (by decide +kernel)⟩
theorem k_D_formula : q_hd y_D_formula m_D_formula ∈ lw_tbl ∧ Cond.initialized y_D_formula.cls ∈ lw_tbl := ⟨q_tb 271 (by decide +kernel), q_tb 1 (by decide +kernel)⟩
theorem ms_D_formula : Cond.instanceMethod y_D_formula ∈ lw_tbl ∧ Cond.selects y_D_formula.cls y_D_formula y_D_formula ∈ lw_tbl := ⟨q_tb 269 (by decide +kernel), q_tb 270 (by decide +kernel)⟩
theorem k_D_states : q_hd y_D_states m_D_states ∈ lw_tbl ∧ Cond.initialized y_D_states.cls ∈ lw_tbl := ⟨q_tb 331 (by decide +kernel), q_tb 1 (by decide +kernel)⟩
theorem ms_D_states : Cond.instanceMethod y_D_states ∈ lw_tbl ∧ Cond.selects y_D_states.cls y_D_states y_D_states ∈ lw_tbl := ⟨q_tb 329 (by decide +kernel), q_tb 330 (by decide +kernel)⟩
theorem k_D_isAt : q_hd y_D_isAt m_D_isAt ∈ lw_tbl ∧ Cond.initialized y_D_isAt.cls ∈ lw_tbl := ⟨q_tb 363 (by decide +kernel), q_tb 1 (by decide +kernel)⟩
theorem ms_D_isAt : Cond.instanceMethod y_D_isAt ∈ lw_tbl ∧ Cond.selects y_D_isAt.cls y_D_isAt y_D_isAt ∈ lw_tbl := ⟨q_tb 361 (by decide +kernel), q_tb 362 (by decide +kernel)⟩
theorem k_D_leads : q_hd y_D_leads m_D_leads ∈ lw_tbl ∧ Cond.initialized y_D_leads.cls ∈ lw_tbl := ⟨q_tb 405 (by decide +kernel), q_tb 1 (by decide +kernel)⟩
theorem ms_D_leads : Cond.instanceMethod y_D_leads ∈ lw_tbl ∧ Cond.selects y_D_leads.cls y_D_leads y_D_leads ∈ lw_tbl := ⟨q_tb 403 (by decide +kernel), q_tb 404 (by decide +kernel)⟩
theorem k_D_lasts : q_hd y_D_lasts m_D_lasts ∈ lw_tbl ∧ Cond.initialized y_D_lasts.cls ∈ lw_tbl := ⟨q_tb 416 (by decide +kernel), q_tb 1 (by decide +kernel)⟩
theorem ms_D_lasts : Cond.instanceMethod y_D_lasts ∈ lw_tbl ∧ Cond.selects y_D_lasts.cls y_D_lasts y_D_lasts ∈ lw_tbl := ⟨q_tb 414 (by decide +kernel), q_tb 415 (by decide +kernel)⟩
theorem k_D_lasting : q_hd y_D_lasting m_D_lasting ∈ lw_tbl ∧ Cond.initialized y_D_lasting.cls ∈ lw_tbl := ⟨q_tb 507 (by decide +kernel), q_tb 1 (by decide +kernel)⟩
theorem ms_D_lasting : Cond.instanceMethod y_D_lasting ∈ lw_tbl ∧ Cond.selects y_D_lasting.cls y_D_lasting y_D_lasting ∈ lw_tbl := ⟨q_tb 505 (by decide +kernel), q_tb 506 (by decide +kernel)⟩
theorem k_D_promises : q_hd y_D_promises m_D_promises ∈ lw_tbl ∧ Cond.initialized y_D_promises.cls ∈ lw_tbl := ⟨q_tb 518 (by decide +kernel), q_tb 1 (by decide +kernel)⟩
theorem ms_D_promises : Cond.instanceMethod y_D_promises ∈ lw_tbl ∧ Cond.selects y_D_promises.cls y_D_promises y_D_promises ∈ lw_tbl := ⟨q_tb 516 (by decide +kernel), q_tb 517 (by decide +kernel)⟩
theorem k_D_can : q_hd y_D_can m_D_can ∈ lw_tbl ∧ Cond.initialized y_D_can.cls ∈ lw_tbl := ⟨q_tb 526 (by decide +kernel), q_tb 1 (by decide +kernel)⟩
theorem ms_D_can : Cond.instanceMethod y_D_can ∈ lw_tbl ∧ Cond.selects y_D_can.cls y_D_can y_D_can ∈ lw_tbl := ⟨q_tb 524 (by decide +kernel), q_tb 525 (by decide +kernel)⟩
theorem k_D_stem : q_hd y_D_stem m_D_stem ∈ lw_tbl ∧ Cond.initialized y_D_stem.cls ∈ lw_tbl := ⟨q_tb 537 (by decide +kernel), q_tb 1 (by decide +kernel)⟩
theorem ms_D_stem : Cond.instanceMethod y_D_stem ∈ lw_tbl ∧ Cond.selects y_D_stem.cls y_D_stem y_D_stem ∈ lw_tbl := ⟨q_tb 535 (by decide +kernel), q_tb 536 (by decide +kernel)⟩
theorem k_D_loop : q_hd y_D_loop m_D_loop ∈ lw_tbl ∧ Cond.initialized y_D_loop.cls ∈ lw_tbl := ⟨q_tb 548 (by decide +kernel), q_tb 1 (by decide +kernel)⟩
theorem ms_D_loop : Cond.instanceMethod y_D_loop ∈ lw_tbl ∧ Cond.selects y_D_loop.cls y_D_loop y_D_loop ∈ lw_tbl := ⟨q_tb 546 (by decide +kernel), q_tb 547 (by decide +kernel)⟩
theorem k_D_step : q_hd y_D_step m_D_step ∈ lw_tbl ∧ Cond.initialized y_D_step.cls ∈ lw_tbl := ⟨q_tb 559 (by decide +kernel), q_tb 1 (by decide +kernel)⟩
theorem ms_D_step : Cond.instanceMethod y_D_step ∈ lw_tbl ∧ Cond.selects y_D_step.cls y_D_step y_D_step ∈ lw_tbl := ⟨q_tb 557 (by decide +kernel), q_tb 558 (by decide +kernel)⟩
theorem k_D_shape : q_hd y_D_shape m_D_shape ∈ lw_tbl ∧ Cond.initialized y_D_shape.cls ∈ lw_tbl := ⟨q_tb 577 (by decide +kernel), q_tb 1 (by decide +kernel)⟩
theorem ms_D_shape : Cond.instanceMethod y_D_shape ∈ lw_tbl ∧ Cond.selects y_D_shape.cls y_D_shape y_D_shape ∈ lw_tbl := ⟨q_tb 575 (by decide +kernel), q_tb 576 (by decide +kernel)⟩
theorem k_D_set : q_hd y_D_set m_D_set ∈ lw_tbl ∧ Cond.initialized y_D_set.cls ∈ lw_tbl := ⟨q_tb 596 (by decide +kernel), q_tb 1 (by decide +kernel)⟩
theorem ms_D_set : Cond.instanceMethod y_D_set ∈ lw_tbl ∧ Cond.selects y_D_set.cls y_D_set y_D_set ∈ lw_tbl := ⟨q_tb 594 (by decide +kernel), q_tb 595 (by decide +kernel)⟩
theorem k_D_adopt : q_hd y_D_adopt m_D_adopt ∈ lw_tbl ∧ Cond.initialized y_D_adopt.cls ∈ lw_tbl := ⟨q_tb 609 (by decide +kernel), q_tb 1 (by decide +kernel)⟩
theorem ms_D_adopt : Cond.instanceMethod y_D_adopt ∈ lw_tbl ∧ Cond.selects y_D_adopt.cls y_D_adopt y_D_adopt ∈ lw_tbl := ⟨q_tb 607 (by decide +kernel), q_tb 608 (by decide +kernel)⟩
theorem k_D_letter : q_hd y_D_letter m_D_letter ∈ lw_tbl ∧ Cond.initialized y_D_letter.cls ∈ lw_tbl := ⟨q_tb 624 (by decide +kernel), q_tb 1 (by decide +kernel)⟩
theorem ms_D_letter : Cond.instanceMethod y_D_letter ∈ lw_tbl ∧ Cond.selects y_D_letter.cls y_D_letter y_D_letter ∈ lw_tbl := ⟨q_tb 622 (by decide +kernel), q_tb 623 (by decide +kernel)⟩
theorem k_D_holds : q_hd y_D_holds m_D_holds ∈ lw_tbl ∧ Cond.initialized y_D_holds.cls ∈ lw_tbl := ⟨q_tb 644 (by decide +kernel), q_tb 1 (by decide +kernel)⟩
theorem ms_D_holds : Cond.instanceMethod y_D_holds ∈ lw_tbl ∧ Cond.selects y_D_holds.cls y_D_holds y_D_holds ∈ lw_tbl := ⟨q_tb 642 (by decide +kernel), q_tb 643 (by decide +kernel)⟩
theorem k_D_requireFormula : q_hd y_D_requireFormula m_D_requireFormula ∈ lw_tbl ∧ Cond.initialized y_D_requireFormula.cls ∈ lw_tbl := ⟨q_tb 335 (by decide +kernel), q_tb 1 (by decide +kernel)⟩
theorem ms_D_requireFormula : Cond.instanceMethod y_D_requireFormula ∈ lw_tbl ∧ Cond.selects y_D_requireFormula.cls y_D_requireFormula y_D_requireFormula ∈ lw_tbl := ⟨q_tb 334 (by decide +kernel), q_ts (n := 8) 6 (by decide +kernel)⟩
theorem k_D_requireState : q_hd y_D_requireState m_D_requireState ∈ lw_tbl ∧ Cond.initialized y_D_requireState.cls ∈ lw_tbl := ⟨q_tb 367 (by decide +kernel), q_tb 1 (by decide +kernel)⟩
theorem ms_D_requireState : Cond.instanceMethod y_D_requireState ∈ lw_tbl ∧ Cond.selects y_D_requireState.cls y_D_requireState y_D_requireState ∈ lw_tbl := ⟨q_tb 366 (by decide +kernel), q_ts (n := 8) 7 (by decide +kernel)⟩
theorem k_D_requirePlace : q_hd y_D_requirePlace m_D_requirePlace ∈ lw_tbl ∧ Cond.initialized y_D_requirePlace.cls ∈ lw_tbl := ⟨q_tb 628 (by decide +kernel), q_tb 1 (by decide +kernel)⟩
theorem ms_D_requirePlace : Cond.instanceMethod y_D_requirePlace ∈ lw_tbl ∧ Cond.selects y_D_requirePlace.cls y_D_requirePlace y_D_requirePlace ∈ lw_tbl := ⟨q_tb 627 (by decide +kernel), q_ts (n := 8) 19 (by decide +kernel)⟩
theorem k_D_settle : q_hd y_D_settle m_D_settle ∈ lw_tbl ∧ Cond.initialized y_D_settle.cls ∈ lw_tbl := ⟨q_tb 420 (by decide +kernel), q_tb 1 (by decide +kernel)⟩
theorem ms_D_settle : Cond.instanceMethod y_D_settle ∈ lw_tbl ∧ Cond.selects y_D_settle.cls y_D_settle y_D_settle ∈ lw_tbl := ⟨q_tb 419 (by decide +kernel), q_ts (n := 8) 9 (by decide +kernel)⟩
theorem k_D_hasBit : q_hd y_D_hasBit m_D_hasBit ∈ lw_tbl ∧ Cond.initialized y_D_hasBit.cls ∈ lw_tbl := ⟨q_tb 394 (by decide +kernel), q_tb 1 (by decide +kernel)⟩
theorem ms_D_hasBit : Cond.static y_D_hasBit ∈ lw_tbl := q_tb 393 (by decide +kernel)
theorem k_D_isTemporal : q_hd y_D_isTemporal m_D_isTemporal ∈ lw_tbl ∧ Cond.initialized y_D_isTemporal.cls ∈ lw_tbl := ⟨q_tb 290 (by decide +kernel), q_tb 1 (by decide +kernel)⟩
theorem ms_D_isTemporal : Cond.static y_D_isTemporal ∈ lw_tbl := q_tb 289 (by decide +kernel)
theorem k_Mo_thrown : q_hd y_Mo_thrown m_Mo_thrown ∈ lw_tbl ∧ Cond.initialized y_Mo_thrown.cls ∈ lw_tbl := ⟨q_tb 803 (by decide +kernel), q_tb 7 (by decide +kernel)⟩
theorem ms_Mo_thrown : Cond.instanceMethod y_Mo_thrown ∈ lw_tbl ∧ Cond.selects y_Mo_thrown.cls y_Mo_thrown y_Mo_thrown ∈ lw_tbl := ⟨q_tb 801 (by decide +kernel), q_tb 802 (by decide +kernel)⟩
theorem k_Mo_type : q_hd y_Mo_type m_Mo_type ∈ lw_tbl ∧ Cond.initialized y_Mo_type.cls ∈ lw_tbl := ⟨q_tb 807 (by decide +kernel), q_tb 7 (by decide +kernel)⟩
theorem ms_Mo_type : Cond.instanceMethod y_Mo_type ∈ lw_tbl ∧ Cond.selects y_Mo_type.cls y_Mo_type y_Mo_type ∈ lw_tbl := ⟨q_tb 805 (by decide +kernel), q_tb 806 (by decide +kernel)⟩
theorem k_Mo_tightness : q_hd y_Mo_tightness m_Mo_tightness ∈ lw_tbl ∧ Cond.initialized y_Mo_tightness.cls ∈ lw_tbl := ⟨q_tb 839 (by decide +kernel), q_tb 7 (by decide +kernel)⟩
theorem ms_Mo_tightness : Cond.static y_Mo_tightness ∈ lw_tbl := q_tb 838 (by decide +kernel)
theorem k_Mo_isTemporal : q_hd y_Mo_isTemporal m_Mo_isTemporal ∈ lw_tbl ∧ Cond.initialized y_Mo_isTemporal.cls ∈ lw_tbl := ⟨q_tb 832 (by decide +kernel), q_tb 7 (by decide +kernel)⟩
theorem ms_Mo_isTemporal : Cond.static y_Mo_isTemporal ∈ lw_tbl := q_tb 831 (by decide +kernel)
theorem k_Mo_part : q_hd y_Mo_part m_Mo_part ∈ lw_tbl ∧ Cond.initialized y_Mo_part.cls ∈ lw_tbl := ⟨q_tb 822 (by decide +kernel), q_tb 7 (by decide +kernel)⟩
theorem ms_Mo_part : Cond.instanceMethod y_Mo_part ∈ lw_tbl ∧ Cond.selects y_Mo_part.cls y_Mo_part y_Mo_part ∈ lw_tbl := ⟨q_tb 821 (by decide +kernel), q_ts (n := 40) 22 (by decide +kernel)⟩
theorem k_Mo_taken : q_hd y_Mo_taken m_Mo_taken ∈ lw_tbl ∧ Cond.initialized y_Mo_taken.cls ∈ lw_tbl := ⟨q_tb 843 (by decide +kernel), q_tb 7 (by decide +kernel)⟩
theorem ms_Mo_taken : Cond.instanceMethod y_Mo_taken ∈ lw_tbl ∧ Cond.selects y_Mo_taken.cls y_Mo_taken y_Mo_taken ∈ lw_tbl := ⟨q_tb 842 (by decide +kernel), q_ts (n := 40) 25 (by decide +kernel)⟩
theorem k_Mo_settle : q_hd y_Mo_settle m_Mo_settle ∈ lw_tbl ∧ Cond.initialized y_Mo_settle.cls ∈ lw_tbl := ⟨q_tb 836 (by decide +kernel), q_tb 7 (by decide +kernel)⟩
theorem ms_Mo_settle : Cond.instanceMethod y_Mo_settle ∈ lw_tbl ∧ Cond.selects y_Mo_settle.cls y_Mo_settle y_Mo_settle ∈ lw_tbl := ⟨q_tb 835 (by decide +kernel), q_ts (n := 40) 24 (by decide +kernel)⟩
theorem k_Mo_push : q_hd y_Mo_push m_Mo_push ∈ lw_tbl ∧ Cond.initialized y_Mo_push.cls ∈ lw_tbl := ⟨q_tb 829 (by decide +kernel), q_tb 7 (by decide +kernel)⟩
theorem ms_Mo_push : Cond.instanceMethod y_Mo_push ∈ lw_tbl ∧ Cond.selects y_Mo_push.cls y_Mo_push y_Mo_push ∈ lw_tbl := ⟨q_tb 828 (by decide +kernel), q_ts (n := 40) 23 (by decide +kernel)⟩
theorem k_Mo_leafOf : q_hd y_Mo_leafOf m_Mo_leafOf ∈ lw_tbl ∧ Cond.initialized y_Mo_leafOf.cls ∈ lw_tbl := ⟨q_tb 818 (by decide +kernel), q_tb 7 (by decide +kernel)⟩
theorem ms_Mo_leafOf : Cond.static y_Mo_leafOf ∈ lw_tbl := q_tb 817 (by decide +kernel)
theorem k_Mo_prefixOf : q_hd y_Mo_prefixOf m_Mo_prefixOf ∈ lw_tbl ∧ Cond.initialized y_Mo_prefixOf.cls ∈ lw_tbl := ⟨q_tb 825 (by decide +kernel), q_tb 7 (by decide +kernel)⟩
theorem ms_Mo_prefixOf : Cond.static y_Mo_prefixOf ∈ lw_tbl := q_tb 824 (by decide +kernel)
theorem k_Mo_signOf : q_hd y_Mo_signOf m_Mo_signOf ∈ lw_tbl ∧ Cond.initialized y_Mo_signOf.cls ∈ lw_tbl := ⟨q_tb 846 (by decide +kernel), q_tb 7 (by decide +kernel)⟩
theorem ms_Mo_signOf : Cond.static y_Mo_signOf ∈ lw_tbl := q_tb 845 (by decide +kernel)
theorem k_Mo_reads : q_hd y_Mo_reads m_Mo_reads ∈ lw_tbl ∧ Cond.initialized y_Mo_reads.cls ∈ lw_tbl := ⟨q_tb 815 (by decide +kernel), q_tb 7 (by decide +kernel)⟩
theorem ms_Mo_reads : Cond.instanceMethod y_Mo_reads ∈ lw_tbl ∧ Cond.selects y_Mo_reads.cls y_Mo_reads y_Mo_reads ∈ lw_tbl := ⟨q_tb 814 (by decide +kernel), q_ts (n := 40) 21 (by decide +kernel)⟩
theorem k_Mo_formula : q_hd y_Mo_formula m_Mo_formula ∈ lw_tbl ∧ Cond.initialized y_Mo_formula.cls ∈ lw_tbl := ⟨q_tb 811 (by decide +kernel), q_tb 7 (by decide +kernel)⟩
theorem ms_Mo_formula : Cond.instanceMethod y_Mo_formula ∈ lw_tbl ∧ Cond.selects y_Mo_formula.cls y_Mo_formula y_Mo_formula ∈ lw_tbl := ⟨q_tb 809 (by decide +kernel), q_tb 810 (by decide +kernel)⟩
theorem k_Mo_count : q_hd y_Mo_count m_Mo_count ∈ lw_tbl ∧ Cond.initialized y_Mo_count.cls ∈ lw_tbl := ⟨q_tb 850 (by decide +kernel), q_tb 7 (by decide +kernel)⟩
theorem ms_Mo_count : Cond.instanceMethod y_Mo_count ∈ lw_tbl ∧ Cond.selects y_Mo_count.cls y_Mo_count y_Mo_count ∈ lw_tbl := ⟨q_tb 849 (by decide +kernel), q_ts (n := 40) 26 (by decide +kernel)⟩
theorem k_Mo_valueOf : q_hd y_Mo_valueOf m_Mo_valueOf ∈ lw_tbl ∧ Cond.initialized y_Mo_valueOf.cls ∈ lw_tbl := ⟨q_tb 858 (by decide +kernel), q_tb 7 (by decide +kernel)⟩
theorem ms_Mo_valueOf : Cond.instanceMethod y_Mo_valueOf ∈ lw_tbl ∧ Cond.selects y_Mo_valueOf.cls y_Mo_valueOf y_Mo_valueOf ∈ lw_tbl := ⟨q_tb 857 (by decide +kernel), q_ts (n := 40) 28 (by decide +kernel)⟩
theorem k_Mo_look : q_hd y_Mo_look m_Mo_look ∈ lw_tbl ∧ Cond.initialized y_Mo_look.cls ∈ lw_tbl := ⟨q_tb 854 (by decide +kernel), q_tb 7 (by decide +kernel)⟩
theorem ms_Mo_look : Cond.instanceMethod y_Mo_look ∈ lw_tbl ∧ Cond.selects y_Mo_look.cls y_Mo_look y_Mo_look ∈ lw_tbl := ⟨q_tb 853 (by decide +kernel), q_ts (n := 40) 27 (by decide +kernel)⟩
theorem k_Mo_goes : q_hd y_Mo_goes m_Mo_goes ∈ lw_tbl ∧ Cond.initialized y_Mo_goes.cls ∈ lw_tbl := ⟨q_tb 899 (by decide +kernel), q_tb 7 (by decide +kernel)⟩
theorem ms_Mo_goes : Cond.instanceMethod y_Mo_goes ∈ lw_tbl ∧ Cond.selects y_Mo_goes.cls y_Mo_goes y_Mo_goes ∈ lw_tbl := ⟨q_tb 898 (by decide +kernel), q_ts (n := 40) 38 (by decide +kernel)⟩
theorem k_Mo_noteSome : q_hd y_Mo_noteSome m_Mo_noteSome ∈ lw_tbl ∧ Cond.initialized y_Mo_noteSome.cls ∈ lw_tbl := ⟨q_tb 870 (by decide +kernel), q_tb 7 (by decide +kernel)⟩
theorem ms_Mo_noteSome : Cond.instanceMethod y_Mo_noteSome ∈ lw_tbl ∧ Cond.selects y_Mo_noteSome.cls y_Mo_noteSome y_Mo_noteSome ∈ lw_tbl := ⟨q_tb 869 (by decide +kernel), q_ts (n := 40) 31 (by decide +kernel)⟩
theorem k_Mo_leadsToOne : q_hd y_Mo_leadsToOne m_Mo_leadsToOne ∈ lw_tbl ∧ Cond.initialized y_Mo_leadsToOne.cls ∈ lw_tbl := ⟨q_tb 874 (by decide +kernel), q_tb 7 (by decide +kernel)⟩
theorem ms_Mo_leadsToOne : Cond.instanceMethod y_Mo_leadsToOne ∈ lw_tbl ∧ Cond.selects y_Mo_leadsToOne.cls y_Mo_leadsToOne y_Mo_leadsToOne ∈ lw_tbl := ⟨q_tb 873 (by decide +kernel), q_ts (n := 40) 32 (by decide +kernel)⟩
theorem k_Mo_countSteps : q_hd y_Mo_countSteps m_Mo_countSteps ∈ lw_tbl ∧ Cond.initialized y_Mo_countSteps.cls ∈ lw_tbl := ⟨q_tb 866 (by decide +kernel), q_tb 7 (by decide +kernel)⟩
theorem ms_Mo_countSteps : Cond.instanceMethod y_Mo_countSteps ∈ lw_tbl ∧ Cond.selects y_Mo_countSteps.cls y_Mo_countSteps y_Mo_countSteps ∈ lw_tbl := ⟨q_tb 865 (by decide +kernel), q_ts (n := 40) 30 (by decide +kernel)⟩
theorem k_Mo_takeOut : q_hd y_Mo_takeOut m_Mo_takeOut ∈ lw_tbl ∧ Cond.initialized y_Mo_takeOut.cls ∈ lw_tbl := ⟨q_tb 862 (by decide +kernel), q_tb 7 (by decide +kernel)⟩
theorem ms_Mo_takeOut : Cond.instanceMethod y_Mo_takeOut ∈ lw_tbl ∧ Cond.selects y_Mo_takeOut.cls y_Mo_takeOut y_Mo_takeOut ∈ lw_tbl := ⟨q_tb 861 (by decide +kernel), q_ts (n := 40) 29 (by decide +kernel)⟩
theorem k_Mo_isDue : q_hd y_Mo_isDue m_Mo_isDue ∈ lw_tbl ∧ Cond.initialized y_Mo_isDue.cls ∈ lw_tbl := ⟨q_tb 890 (by decide +kernel), q_tb 7 (by decide +kernel)⟩
theorem ms_Mo_isDue : Cond.instanceMethod y_Mo_isDue ∈ lw_tbl ∧ Cond.selects y_Mo_isDue.cls y_Mo_isDue y_Mo_isDue ∈ lw_tbl := ⟨q_tb 889 (by decide +kernel), q_ts (n := 40) 36 (by decide +kernel)⟩
theorem k_Mo_dutyAt : q_hd y_Mo_dutyAt m_Mo_dutyAt ∈ lw_tbl ∧ Cond.initialized y_Mo_dutyAt.cls ∈ lw_tbl := ⟨q_tb 886 (by decide +kernel), q_tb 7 (by decide +kernel)⟩
theorem ms_Mo_dutyAt : Cond.instanceMethod y_Mo_dutyAt ∈ lw_tbl ∧ Cond.selects y_Mo_dutyAt.cls y_Mo_dutyAt y_Mo_dutyAt ∈ lw_tbl := ⟨q_tb 885 (by decide +kernel), q_ts (n := 40) 35 (by decide +kernel)⟩
theorem k_Mo_nextOf : q_hd y_Mo_nextOf m_Mo_nextOf ∈ lw_tbl ∧ Cond.initialized y_Mo_nextOf.cls ∈ lw_tbl := ⟨q_tb 894 (by decide +kernel), q_tb 7 (by decide +kernel)⟩
theorem ms_Mo_nextOf : Cond.instanceMethod y_Mo_nextOf ∈ lw_tbl ∧ Cond.selects y_Mo_nextOf.cls y_Mo_nextOf y_Mo_nextOf ∈ lw_tbl := ⟨q_tb 893 (by decide +kernel), q_ts (n := 40) 37 (by decide +kernel)⟩
theorem k_Mo_firstState : q_hd y_Mo_firstState m_Mo_firstState ∈ lw_tbl ∧ Cond.initialized y_Mo_firstState.cls ∈ lw_tbl := ⟨q_tb 882 (by decide +kernel), q_tb 7 (by decide +kernel)⟩
theorem ms_Mo_firstState : Cond.instanceMethod y_Mo_firstState ∈ lw_tbl ∧ Cond.selects y_Mo_firstState.cls y_Mo_firstState y_Mo_firstState ∈ lw_tbl := ⟨q_tb 881 (by decide +kernel), q_ts (n := 40) 34 (by decide +kernel)⟩
theorem k_Mo_goWalk : q_hd y_Mo_goWalk m_Mo_goWalk ∈ lw_tbl ∧ Cond.initialized y_Mo_goWalk.cls ∈ lw_tbl := ⟨q_tb 878 (by decide +kernel), q_tb 7 (by decide +kernel)⟩
theorem ms_Mo_goWalk : Cond.instanceMethod y_Mo_goWalk ∈ lw_tbl ∧ Cond.selects y_Mo_goWalk.cls y_Mo_goWalk y_Mo_goWalk ∈ lw_tbl := ⟨q_tb 877 (by decide +kernel), q_ts (n := 40) 33 (by decide +kernel)⟩
theorem k_Mo_refused : q_hd y_Mo_refused m_Mo_refused ∈ lw_tbl ∧ Cond.initialized y_Mo_refused.cls ∈ lw_tbl := ⟨q_tb 907 (by decide +kernel), q_tb 7 (by decide +kernel)⟩
theorem ms_Mo_refused : Cond.instanceMethod y_Mo_refused ∈ lw_tbl ∧ Cond.selects y_Mo_refused.cls y_Mo_refused y_Mo_refused ∈ lw_tbl := ⟨q_tb 906 (by decide +kernel), q_ts (n := 40) 39 (by decide +kernel)⟩
theorem k_Mo_isState : q_hd y_Mo_isState m_Mo_isState ∈ lw_tbl ∧ Cond.initialized y_Mo_isState.cls ∈ lw_tbl := ⟨q_tb 915 (by decide +kernel), q_tb 7 (by decide +kernel)⟩
theorem ms_Mo_isState : Cond.instanceMethod y_Mo_isState ∈ lw_tbl ∧ Cond.selects y_Mo_isState.cls y_Mo_isState y_Mo_isState ∈ lw_tbl := ⟨q_tb 914 (by decide +kernel), q_ts (n := 40) 40 (by decide +kernel)⟩
theorem k_Mo_states : q_hd y_Mo_states m_Mo_states ∈ lw_tbl ∧ Cond.initialized y_Mo_states.cls ∈ lw_tbl := ⟨q_tb 903 (by decide +kernel), q_tb 7 (by decide +kernel)⟩
theorem ms_Mo_states : Cond.instanceMethod y_Mo_states ∈ lw_tbl ∧ Cond.selects y_Mo_states.cls y_Mo_states y_Mo_states ∈ lw_tbl := ⟨q_tb 901 (by decide +kernel), q_tb 902 (by decide +kernel)⟩
theorem k_Mo_isAt : q_hd y_Mo_isAt m_Mo_isAt ∈ lw_tbl ∧ Cond.initialized y_Mo_isAt.cls ∈ lw_tbl := ⟨q_tb 911 (by decide +kernel), q_tb 7 (by decide +kernel)⟩
theorem ms_Mo_isAt : Cond.instanceMethod y_Mo_isAt ∈ lw_tbl ∧ Cond.selects y_Mo_isAt.cls y_Mo_isAt y_Mo_isAt ∈ lw_tbl := ⟨q_tb 909 (by decide +kernel), q_tb 910 (by decide +kernel)⟩
theorem k_Mo_leads : q_hd y_Mo_leads m_Mo_leads ∈ lw_tbl ∧ Cond.initialized y_Mo_leads.cls ∈ lw_tbl := ⟨q_tb 919 (by decide +kernel), q_tb 7 (by decide +kernel)⟩
theorem ms_Mo_leads : Cond.instanceMethod y_Mo_leads ∈ lw_tbl ∧ Cond.selects y_Mo_leads.cls y_Mo_leads y_Mo_leads ∈ lw_tbl := ⟨q_tb 917 (by decide +kernel), q_tb 918 (by decide +kernel)⟩
theorem k_Mo_lasts : q_hd y_Mo_lasts m_Mo_lasts ∈ lw_tbl ∧ Cond.initialized y_Mo_lasts.cls ∈ lw_tbl := ⟨q_tb 923 (by decide +kernel), q_tb 7 (by decide +kernel)⟩
theorem ms_Mo_lasts : Cond.instanceMethod y_Mo_lasts ∈ lw_tbl ∧ Cond.selects y_Mo_lasts.cls y_Mo_lasts y_Mo_lasts ∈ lw_tbl := ⟨q_tb 921 (by decide +kernel), q_tb 922 (by decide +kernel)⟩
theorem k_Mo_lasting : q_hd y_Mo_lasting m_Mo_lasting ∈ lw_tbl ∧ Cond.initialized y_Mo_lasting.cls ∈ lw_tbl := ⟨q_tb 927 (by decide +kernel), q_tb 7 (by decide +kernel)⟩
theorem ms_Mo_lasting : Cond.instanceMethod y_Mo_lasting ∈ lw_tbl ∧ Cond.selects y_Mo_lasting.cls y_Mo_lasting y_Mo_lasting ∈ lw_tbl := ⟨q_tb 925 (by decide +kernel), q_tb 926 (by decide +kernel)⟩
theorem k_Mo_promises : q_hd y_Mo_promises m_Mo_promises ∈ lw_tbl ∧ Cond.initialized y_Mo_promises.cls ∈ lw_tbl := ⟨q_tb 931 (by decide +kernel), q_tb 7 (by decide +kernel)⟩
theorem ms_Mo_promises : Cond.instanceMethod y_Mo_promises ∈ lw_tbl ∧ Cond.selects y_Mo_promises.cls y_Mo_promises y_Mo_promises ∈ lw_tbl := ⟨q_tb 929 (by decide +kernel), q_tb 930 (by decide +kernel)⟩
theorem k_Mo_can : q_hd y_Mo_can m_Mo_can ∈ lw_tbl ∧ Cond.initialized y_Mo_can.cls ∈ lw_tbl := ⟨q_tb 935 (by decide +kernel), q_tb 7 (by decide +kernel)⟩
theorem ms_Mo_can : Cond.instanceMethod y_Mo_can ∈ lw_tbl ∧ Cond.selects y_Mo_can.cls y_Mo_can y_Mo_can ∈ lw_tbl := ⟨q_tb 933 (by decide +kernel), q_tb 934 (by decide +kernel)⟩
theorem k_Mo_stem : q_hd y_Mo_stem m_Mo_stem ∈ lw_tbl ∧ Cond.initialized y_Mo_stem.cls ∈ lw_tbl := ⟨q_tb 939 (by decide +kernel), q_tb 7 (by decide +kernel)⟩
theorem ms_Mo_stem : Cond.instanceMethod y_Mo_stem ∈ lw_tbl ∧ Cond.selects y_Mo_stem.cls y_Mo_stem y_Mo_stem ∈ lw_tbl := ⟨q_tb 937 (by decide +kernel), q_tb 938 (by decide +kernel)⟩
theorem k_Mo_loop : q_hd y_Mo_loop m_Mo_loop ∈ lw_tbl ∧ Cond.initialized y_Mo_loop.cls ∈ lw_tbl := ⟨q_tb 943 (by decide +kernel), q_tb 7 (by decide +kernel)⟩
theorem ms_Mo_loop : Cond.instanceMethod y_Mo_loop ∈ lw_tbl ∧ Cond.selects y_Mo_loop.cls y_Mo_loop y_Mo_loop ∈ lw_tbl := ⟨q_tb 941 (by decide +kernel), q_tb 942 (by decide +kernel)⟩
theorem k_Mo_step : q_hd y_Mo_step m_Mo_step ∈ lw_tbl ∧ Cond.initialized y_Mo_step.cls ∈ lw_tbl := ⟨q_tb 947 (by decide +kernel), q_tb 7 (by decide +kernel)⟩
theorem ms_Mo_step : Cond.instanceMethod y_Mo_step ∈ lw_tbl ∧ Cond.selects y_Mo_step.cls y_Mo_step y_Mo_step ∈ lw_tbl := ⟨q_tb 945 (by decide +kernel), q_tb 946 (by decide +kernel)⟩
theorem k_Mo_shape : q_hd y_Mo_shape m_Mo_shape ∈ lw_tbl ∧ Cond.initialized y_Mo_shape.cls ∈ lw_tbl := ⟨q_tb 951 (by decide +kernel), q_tb 7 (by decide +kernel)⟩
theorem ms_Mo_shape : Cond.instanceMethod y_Mo_shape ∈ lw_tbl ∧ Cond.selects y_Mo_shape.cls y_Mo_shape y_Mo_shape ∈ lw_tbl := ⟨q_tb 949 (by decide +kernel), q_tb 950 (by decide +kernel)⟩
theorem k_Mo_set : q_hd y_Mo_set m_Mo_set ∈ lw_tbl ∧ Cond.initialized y_Mo_set.cls ∈ lw_tbl := ⟨q_tb 955 (by decide +kernel), q_tb 7 (by decide +kernel)⟩
theorem ms_Mo_set : Cond.instanceMethod y_Mo_set ∈ lw_tbl ∧ Cond.selects y_Mo_set.cls y_Mo_set y_Mo_set ∈ lw_tbl := ⟨q_tb 953 (by decide +kernel), q_tb 954 (by decide +kernel)⟩
theorem k_Mo_adopt : q_hd y_Mo_adopt m_Mo_adopt ∈ lw_tbl ∧ Cond.initialized y_Mo_adopt.cls ∈ lw_tbl := ⟨q_tb 959 (by decide +kernel), q_tb 7 (by decide +kernel)⟩
theorem ms_Mo_adopt : Cond.instanceMethod y_Mo_adopt ∈ lw_tbl ∧ Cond.selects y_Mo_adopt.cls y_Mo_adopt y_Mo_adopt ∈ lw_tbl := ⟨q_tb 957 (by decide +kernel), q_tb 958 (by decide +kernel)⟩
theorem k_Mo_placeOf : q_hd y_Mo_placeOf m_Mo_placeOf ∈ lw_tbl ∧ Cond.initialized y_Mo_placeOf.cls ∈ lw_tbl := ⟨q_tb 967 (by decide +kernel), q_tb 7 (by decide +kernel)⟩
theorem ms_Mo_placeOf : Cond.instanceMethod y_Mo_placeOf ∈ lw_tbl ∧ Cond.selects y_Mo_placeOf.cls y_Mo_placeOf y_Mo_placeOf ∈ lw_tbl := ⟨q_tb 966 (by decide +kernel), q_ts (n := 40) 41 (by decide +kernel)⟩
theorem k_Mo_letter : q_hd y_Mo_letter m_Mo_letter ∈ lw_tbl ∧ Cond.initialized y_Mo_letter.cls ∈ lw_tbl := ⟨q_tb 963 (by decide +kernel), q_tb 7 (by decide +kernel)⟩
theorem ms_Mo_letter : Cond.instanceMethod y_Mo_letter ∈ lw_tbl ∧ Cond.selects y_Mo_letter.cls y_Mo_letter y_Mo_letter ∈ lw_tbl := ⟨q_tb 961 (by decide +kernel), q_tb 962 (by decide +kernel)⟩
theorem k_Mo_spread : q_hd y_Mo_spread m_Mo_spread ∈ lw_tbl ∧ Cond.initialized y_Mo_spread.cls ∈ lw_tbl := ⟨q_tb 975 (by decide +kernel), q_tb 7 (by decide +kernel)⟩
theorem ms_Mo_spread : Cond.instanceMethod y_Mo_spread ∈ lw_tbl ∧ Cond.selects y_Mo_spread.cls y_Mo_spread y_Mo_spread ∈ lw_tbl := ⟨q_tb 974 (by decide +kernel), q_ts (n := 40) 42 (by decide +kernel)⟩
theorem k_Mo_holds : q_hd y_Mo_holds m_Mo_holds ∈ lw_tbl ∧ Cond.initialized y_Mo_holds.cls ∈ lw_tbl := ⟨q_tb 971 (by decide +kernel), q_tb 7 (by decide +kernel)⟩
theorem ms_Mo_holds : Cond.instanceMethod y_Mo_holds ∈ lw_tbl ∧ Cond.selects y_Mo_holds.cls y_Mo_holds y_Mo_holds ∈ lw_tbl := ⟨q_tb 969 (by decide +kernel), q_tb 970 (by decide +kernel)⟩
theorem k_Fo_clear : q_hd y_Fo_clear m_Fo_clear ∈ lw_tbl ∧ Cond.initialized y_Fo_clear.cls ∈ lw_tbl := ⟨q_tb 279 (by decide +kernel), q_tb 6 (by decide +kernel)⟩
theorem ms_Fo_clear : Cond.instanceMethod y_Fo_clear ∈ lw_tbl ∧ Cond.selects y_Fo_clear.cls y_Fo_clear y_Fo_clear ∈ lw_tbl := ⟨q_tb 277 (by decide +kernel), q_tb 278 (by decide +kernel)⟩
theorem k_Fo_add : q_hd y_Fo_add m_Fo_add ∈ lw_tbl ∧ Cond.initialized y_Fo_add.cls ∈ lw_tbl := ⟨q_tb 302 (by decide +kernel), q_tb 6 (by decide +kernel)⟩
theorem ms_Fo_add : Cond.instanceMethod y_Fo_add ∈ lw_tbl ∧ Cond.selects y_Fo_add.cls y_Fo_add y_Fo_add ∈ lw_tbl := ⟨q_tb 300 (by decide +kernel), q_tb 301 (by decide +kernel)⟩
theorem k_Fo_listPromises : q_hd y_Fo_listPromises m_Fo_listPromises ∈ lw_tbl ∧ Cond.initialized y_Fo_listPromises.cls ∈ lw_tbl := ⟨q_tb 314 (by decide +kernel), q_tb 6 (by decide +kernel)⟩
theorem ms_Fo_listPromises : Cond.instanceMethod y_Fo_listPromises ∈ lw_tbl ∧ Cond.selects y_Fo_listPromises.cls y_Fo_listPromises y_Fo_listPromises ∈ lw_tbl := ⟨q_tb 312 (by decide +kernel), q_tb 313 (by decide +kernel)⟩
theorem k_Fo_size : q_hd y_Fo_size m_Fo_size ∈ lw_tbl ∧ Cond.initialized y_Fo_size.cls ∈ lw_tbl := ⟨q_tb 323 (by decide +kernel), q_tb 6 (by decide +kernel)⟩
theorem ms_Fo_size : Cond.instanceMethod y_Fo_size ∈ lw_tbl ∧ Cond.selects y_Fo_size.cls y_Fo_size y_Fo_size ∈ lw_tbl := ⟨q_tb 321 (by decide +kernel), q_tb 322 (by decide +kernel)⟩
theorem k_Fo_stateCount : q_hd y_Fo_stateCount m_Fo_stateCount ∈ lw_tbl ∧ Cond.initialized y_Fo_stateCount.cls ∈ lw_tbl := ⟨q_tb 355 (by decide +kernel), q_tb 6 (by decide +kernel)⟩
theorem ms_Fo_stateCount : Cond.instanceMethod y_Fo_stateCount ∈ lw_tbl ∧ Cond.selects y_Fo_stateCount.cls y_Fo_stateCount y_Fo_stateCount ∈ lw_tbl := ⟨q_tb 353 (by decide +kernel), q_tb 354 (by decide +kernel)⟩
theorem k_Fo_promiseCount : q_hd y_Fo_promiseCount m_Fo_promiseCount ∈ lw_tbl ∧ Cond.initialized y_Fo_promiseCount.cls ∈ lw_tbl := ⟨q_tb 433 (by decide +kernel), q_tb 6 (by decide +kernel)⟩
theorem ms_Fo_promiseCount : Cond.instanceMethod y_Fo_promiseCount ∈ lw_tbl ∧ Cond.selects y_Fo_promiseCount.cls y_Fo_promiseCount y_Fo_promiseCount ∈ lw_tbl := ⟨q_tb 431 (by decide +kernel), q_tb 432 (by decide +kernel)⟩
theorem k_Fo_isWholeIn : q_hd y_Fo_isWholeIn m_Fo_isWholeIn ∈ lw_tbl ∧ Cond.initialized y_Fo_isWholeIn.cls ∈ lw_tbl := ⟨q_tb 398 (by decide +kernel), q_tb 6 (by decide +kernel)⟩
theorem ms_Fo_isWholeIn : Cond.instanceMethod y_Fo_isWholeIn ∈ lw_tbl ∧ Cond.selects y_Fo_isWholeIn.cls y_Fo_isWholeIn y_Fo_isWholeIn ∈ lw_tbl := ⟨q_tb 396 (by decide +kernel), q_tb 397 (by decide +kernel)⟩
theorem k_Fo_partsAt : q_hd y_Fo_partsAt m_Fo_partsAt ∈ lw_tbl ∧ Cond.initialized y_Fo_partsAt.cls ∈ lw_tbl := ⟨q_tb 387 (by decide +kernel), q_tb 6 (by decide +kernel)⟩
theorem ms_Fo_partsAt : Cond.instanceMethod y_Fo_partsAt ∈ lw_tbl ∧ Cond.selects y_Fo_partsAt.cls y_Fo_partsAt y_Fo_partsAt ∈ lw_tbl := ⟨q_tb 385 (by decide +kernel), q_tb 386 (by decide +kernel)⟩
theorem k_Fo_isPartAt : q_hd y_Fo_isPartAt m_Fo_isPartAt ∈ lw_tbl ∧ Cond.initialized y_Fo_isPartAt.cls ∈ lw_tbl := ⟨q_tb 391 (by decide +kernel), q_tb 6 (by decide +kernel)⟩
theorem ms_Fo_isPartAt : Cond.instanceMethod y_Fo_isPartAt ∈ lw_tbl ∧ Cond.selects y_Fo_isPartAt.cls y_Fo_isPartAt y_Fo_isPartAt ∈ lw_tbl := ⟨q_tb 390 (by decide +kernel), q_ts (n := 10) 8 (by decide +kernel)⟩
theorem k_Fo_expectedBefore : q_hd y_Fo_expectedBefore m_Fo_expectedBefore ∈ lw_tbl ∧ Cond.initialized y_Fo_expectedBefore.cls ∈ lw_tbl := ⟨q_tb 409 (by decide +kernel), q_tb 6 (by decide +kernel)⟩
theorem ms_Fo_expectedBefore : Cond.instanceMethod y_Fo_expectedBefore ∈ lw_tbl ∧ Cond.selects y_Fo_expectedBefore.cls y_Fo_expectedBefore y_Fo_expectedBefore ∈ lw_tbl := ⟨q_tb 407 (by decide +kernel), q_tb 408 (by decide +kernel)⟩
theorem k_Fo_openIn : q_hd y_Fo_openIn m_Fo_openIn ∈ lw_tbl ∧ Cond.initialized y_Fo_openIn.cls ∈ lw_tbl := ⟨q_tb 447 (by decide +kernel), q_tb 6 (by decide +kernel)⟩
theorem ms_Fo_openIn : Cond.instanceMethod y_Fo_openIn ∈ lw_tbl ∧ Cond.selects y_Fo_openIn.cls y_Fo_openIn y_Fo_openIn ∈ lw_tbl := ⟨q_tb 445 (by decide +kernel), q_tb 446 (by decide +kernel)⟩
theorem k_Fo_keptIn : q_hd y_Fo_keptIn m_Fo_keptIn ∈ lw_tbl ∧ Cond.initialized y_Fo_keptIn.cls ∈ lw_tbl := ⟨q_tb 439 (by decide +kernel), q_tb 6 (by decide +kernel)⟩
theorem ms_Fo_keptIn : Cond.instanceMethod y_Fo_keptIn ∈ lw_tbl ∧ Cond.selects y_Fo_keptIn.cls y_Fo_keptIn y_Fo_keptIn ∈ lw_tbl := ⟨q_tb 437 (by decide +kernel), q_tb 438 (by decide +kernel)⟩
theorem k_Fo_isForOnce : q_hd y_Fo_isForOnce m_Fo_isForOnce ∈ lw_tbl ∧ Cond.initialized y_Fo_isForOnce.cls ∈ lw_tbl := ⟨q_tb 443 (by decide +kernel), q_tb 6 (by decide +kernel)⟩
theorem ms_Fo_isForOnce : Cond.instanceMethod y_Fo_isForOnce ∈ lw_tbl ∧ Cond.selects y_Fo_isForOnce.cls y_Fo_isForOnce y_Fo_isForOnce ∈ lw_tbl := ⟨q_tb 442 (by decide +kernel), q_ts (n := 10) 11 (by decide +kernel)⟩
theorem k_Fo_placesOn : q_hd y_Fo_placesOn m_Fo_placesOn ∈ lw_tbl ∧ Cond.initialized y_Fo_placesOn.cls ∈ lw_tbl := ⟨q_tb 648 (by decide +kernel), q_tb 6 (by decide +kernel)⟩
theorem ms_Fo_placesOn : Cond.instanceMethod y_Fo_placesOn ∈ lw_tbl ∧ Cond.selects y_Fo_placesOn.cls y_Fo_placesOn y_Fo_placesOn ∈ lw_tbl := ⟨q_tb 646 (by decide +kernel), q_tb 647 (by decide +kernel)⟩
theorem k_Fo_partPlaces : q_hd y_Fo_partPlaces m_Fo_partPlaces ∈ lw_tbl ∧ Cond.initialized y_Fo_partPlaces.cls ∈ lw_tbl := ⟨q_tb 652 (by decide +kernel), q_tb 6 (by decide +kernel)⟩
theorem ms_Fo_partPlaces : Cond.instanceMethod y_Fo_partPlaces ∈ lw_tbl ∧ Cond.selects y_Fo_partPlaces.cls y_Fo_partPlaces y_Fo_partPlaces ∈ lw_tbl := ⟨q_tb 651 (by decide +kernel), q_ts (n := 10) 20 (by decide +kernel)⟩
theorem k_Gw_fits : q_hd y_Gw_fits m_Gw_fits ∈ lw_tbl ∧ Cond.initialized y_Gw_fits.cls ∈ lw_tbl := ⟨q_tb 580 (by decide +kernel), q_tb 5 (by decide +kernel)⟩
theorem ms_Gw_fits : Cond.static y_Gw_fits ∈ lw_tbl := q_tb 579 (by decide +kernel)
theorem k_Gw_size : q_hd y_Gw_size m_Gw_size ∈ lw_tbl ∧ Cond.initialized y_Gw_size.cls ∈ lw_tbl := ⟨q_tb 589 (by decide +kernel), q_tb 5 (by decide +kernel)⟩
theorem ms_Gw_size : Cond.instanceMethod y_Gw_size ∈ lw_tbl ∧ Cond.selects y_Gw_size.cls y_Gw_size y_Gw_size ∈ lw_tbl := ⟨q_tb 587 (by decide +kernel), q_tb 588 (by decide +kernel)⟩
theorem k_Gw_reshape : q_hd y_Gw_reshape m_Gw_reshape ∈ lw_tbl ∧ Cond.initialized y_Gw_reshape.cls ∈ lw_tbl := ⟨q_tb 585 (by decide +kernel), q_tb 5 (by decide +kernel)⟩
theorem ms_Gw_reshape : Cond.instanceMethod y_Gw_reshape ∈ lw_tbl ∧ Cond.selects y_Gw_reshape.cls y_Gw_reshape y_Gw_reshape ∈ lw_tbl := ⟨q_tb 583 (by decide +kernel), q_tb 584 (by decide +kernel)⟩
theorem k_Gw_replace : q_hd y_Gw_replace m_Gw_replace ∈ lw_tbl ∧ Cond.initialized y_Gw_replace.cls ∈ lw_tbl := ⟨q_tb 602 (by decide +kernel), q_tb 5 (by decide +kernel)⟩
theorem ms_Gw_replace : Cond.instanceMethod y_Gw_replace ∈ lw_tbl ∧ Cond.selects y_Gw_replace.cls y_Gw_replace y_Gw_replace ∈ lw_tbl := ⟨q_tb 600 (by decide +kernel), q_tb 601 (by decide +kernel)⟩
theorem k_Gw_take : q_hd y_Gw_take m_Gw_take ∈ lw_tbl ∧ Cond.initialized y_Gw_take.cls ∈ lw_tbl := ⟨q_tb 613 (by decide +kernel), q_tb 5 (by decide +kernel)⟩
theorem ms_Gw_take : Cond.instanceMethod y_Gw_take ∈ lw_tbl ∧ Cond.selects y_Gw_take.cls y_Gw_take y_Gw_take ∈ lw_tbl := ⟨q_tb 611 (by decide +kernel), q_tb 612 (by decide +kernel)⟩
theorem k_Gw_indexOf : q_hd y_Gw_indexOf m_Gw_indexOf ∈ lw_tbl ∧ Cond.initialized y_Gw_indexOf.cls ∈ lw_tbl := ⟨q_tb 637 (by decide +kernel), q_tb 5 (by decide +kernel)⟩
theorem ms_Gw_indexOf : Cond.instanceMethod y_Gw_indexOf ∈ lw_tbl ∧ Cond.selects y_Gw_indexOf.cls y_Gw_indexOf y_Gw_indexOf ∈ lw_tbl := ⟨q_tb 635 (by decide +kernel), q_tb 636 (by decide +kernel)⟩
theorem k_Gw_letterAt : q_hd y_Gw_letterAt m_Gw_letterAt ∈ lw_tbl ∧ Cond.initialized y_Gw_letterAt.cls ∈ lw_tbl := ⟨q_tb 633 (by decide +kernel), q_tb 5 (by decide +kernel)⟩
theorem ms_Gw_letterAt : Cond.instanceMethod y_Gw_letterAt ∈ lw_tbl ∧ Cond.selects y_Gw_letterAt.cls y_Gw_letterAt y_Gw_letterAt ∈ lw_tbl := ⟨q_tb 631 (by decide +kernel), q_tb 632 (by decide +kernel)⟩
theorem k_Gw_allPlaces : q_hd y_Gw_allPlaces m_Gw_allPlaces ∈ lw_tbl ∧ Cond.initialized y_Gw_allPlaces.cls ∈ lw_tbl := ⟨q_tb 656 (by decide +kernel), q_tb 5 (by decide +kernel)⟩
theorem ms_Gw_allPlaces : Cond.instanceMethod y_Gw_allPlaces ∈ lw_tbl ∧ Cond.selects y_Gw_allPlaces.cls y_Gw_allPlaces y_Gw_allPlaces ∈ lw_tbl := ⟨q_tb 654 (by decide +kernel), q_tb 655 (by decide +kernel)⟩
theorem k_Gw_placesWith : q_hd y_Gw_placesWith m_Gw_placesWith ∈ lw_tbl ∧ Cond.initialized y_Gw_placesWith.cls ∈ lw_tbl := ⟨q_tb 660 (by decide +kernel), q_tb 5 (by decide +kernel)⟩
theorem ms_Gw_placesWith : Cond.instanceMethod y_Gw_placesWith ∈ lw_tbl ∧ Cond.selects y_Gw_placesWith.cls y_Gw_placesWith y_Gw_placesWith ∈ lw_tbl := ⟨q_tb 658 (by decide +kernel), q_tb 659 (by decide +kernel)⟩
theorem k_Gw_placesBefore : q_hd y_Gw_placesBefore m_Gw_placesBefore ∈ lw_tbl ∧ Cond.initialized y_Gw_placesBefore.cls ∈ lw_tbl := ⟨q_tb 665 (by decide +kernel), q_tb 5 (by decide +kernel)⟩
theorem ms_Gw_placesBefore : Cond.instanceMethod y_Gw_placesBefore ∈ lw_tbl ∧ Cond.selects y_Gw_placesBefore.cls y_Gw_placesBefore y_Gw_placesBefore ∈ lw_tbl := ⟨q_tb 663 (by decide +kernel), q_tb 664 (by decide +kernel)⟩
theorem k_Gw_placesUntil : q_hd y_Gw_placesUntil m_Gw_placesUntil ∈ lw_tbl ∧ Cond.initialized y_Gw_placesUntil.cls ∈ lw_tbl := ⟨q_tb 669 (by decide +kernel), q_tb 5 (by decide +kernel)⟩
theorem ms_Gw_placesUntil : Cond.instanceMethod y_Gw_placesUntil ∈ lw_tbl ∧ Cond.selects y_Gw_placesUntil.cls y_Gw_placesUntil y_Gw_placesUntil ∈ lw_tbl := ⟨q_tb 667 (by decide +kernel), q_tb 668 (by decide +kernel)⟩
theorem k_La_find : q_hd y_La_find m_La_find ∈ lw_tbl ∧ Cond.initialized y_La_find.cls ∈ lw_tbl := ⟨q_tb 424 (by decide +kernel), q_tb 3 (by decide +kernel)⟩
theorem ms_La_find : Cond.instanceMethod y_La_find ∈ lw_tbl ∧ Cond.selects y_La_find.cls y_La_find y_La_find ∈ lw_tbl := ⟨q_tb 422 (by decide +kernel), q_tb 423 (by decide +kernel)⟩
theorem k_La_lookAtStates : q_hd y_La_lookAtStates m_La_lookAtStates ∈ lw_tbl ∧ Cond.initialized y_La_lookAtStates.cls ∈ lw_tbl := ⟨q_tb 428 (by decide +kernel), q_tb 3 (by decide +kernel)⟩
theorem ms_La_lookAtStates : Cond.instanceMethod y_La_lookAtStates ∈ lw_tbl ∧ Cond.selects y_La_lookAtStates.cls y_La_lookAtStates y_La_lookAtStates ∈ lw_tbl := ⟨q_tb 427 (by decide +kernel), q_ts (n := 10) 10 (by decide +kernel)⟩
theorem k_La_sweepDeadEnds : q_hd y_La_sweepDeadEnds m_La_sweepDeadEnds ∈ lw_tbl ∧ Cond.initialized y_La_sweepDeadEnds.cls ∈ lw_tbl := ⟨q_tb 452 (by decide +kernel), q_tb 3 (by decide +kernel)⟩
theorem ms_La_sweepDeadEnds : Cond.instanceMethod y_La_sweepDeadEnds ∈ lw_tbl ∧ Cond.selects y_La_sweepDeadEnds.cls y_La_sweepDeadEnds y_La_sweepDeadEnds ∈ lw_tbl := ⟨q_tb 451 (by decide +kernel), q_ts (n := 10) 12 (by decide +kernel)⟩
theorem k_La_sweepUnkept : q_hd y_La_sweepUnkept m_La_sweepUnkept ∈ lw_tbl ∧ Cond.initialized y_La_sweepUnkept.cls ∈ lw_tbl := ⟨q_tb 469 (by decide +kernel), q_tb 3 (by decide +kernel)⟩
theorem ms_La_sweepUnkept : Cond.instanceMethod y_La_sweepUnkept ∈ lw_tbl ∧ Cond.selects y_La_sweepUnkept.cls y_La_sweepUnkept y_La_sweepUnkept ∈ lw_tbl := ⟨q_tb 468 (by decide +kernel), q_ts (n := 10) 16 (by decide +kernel)⟩
theorem k_La_takeAway : q_hd y_La_takeAway m_La_takeAway ∈ lw_tbl ∧ Cond.initialized y_La_takeAway.cls ∈ lw_tbl := ⟨q_tb 457 (by decide +kernel), q_tb 3 (by decide +kernel)⟩
theorem ms_La_takeAway : Cond.instanceMethod y_La_takeAway ∈ lw_tbl ∧ Cond.selects y_La_takeAway.cls y_La_takeAway y_La_takeAway ∈ lw_tbl := ⟨q_tb 456 (by decide +kernel), q_ts (n := 10) 13 (by decide +kernel)⟩
theorem k_La_countSteps : q_hd y_La_countSteps m_La_countSteps ∈ lw_tbl ∧ Cond.initialized y_La_countSteps.cls ∈ lw_tbl := ⟨q_tb 461 (by decide +kernel), q_tb 3 (by decide +kernel)⟩
theorem ms_La_countSteps : Cond.instanceMethod y_La_countSteps ∈ lw_tbl ∧ Cond.selects y_La_countSteps.cls y_La_countSteps y_La_countSteps ∈ lw_tbl := ⟨q_tb 460 (by decide +kernel), q_ts (n := 10) 14 (by decide +kernel)⟩
theorem k_La_reachBefore : q_hd y_La_reachBefore m_La_reachBefore ∈ lw_tbl ∧ Cond.initialized y_La_reachBefore.cls ∈ lw_tbl := ⟨q_tb 465 (by decide +kernel), q_tb 3 (by decide +kernel)⟩
theorem ms_La_reachBefore : Cond.instanceMethod y_La_reachBefore ∈ lw_tbl ∧ Cond.selects y_La_reachBefore.cls y_La_reachBefore y_La_reachBefore ∈ lw_tbl := ⟨q_tb 464 (by decide +kernel), q_ts (n := 10) 15 (by decide +kernel)⟩
theorem k_La_stepsFrom : q_hd y_La_stepsFrom m_La_stepsFrom ∈ lw_tbl ∧ Cond.initialized y_La_stepsFrom.cls ∈ lw_tbl := ⟨q_tb 473 (by decide +kernel), q_tb 3 (by decide +kernel)⟩
theorem ms_La_stepsFrom : Cond.instanceMethod y_La_stepsFrom ∈ lw_tbl ∧ Cond.selects y_La_stepsFrom.cls y_La_stepsFrom y_La_stepsFrom ∈ lw_tbl := ⟨q_tb 472 (by decide +kernel), q_ts (n := 10) 17 (by decide +kernel)⟩
theorem k_La_has : q_hd y_La_has m_La_has ∈ lw_tbl ∧ Cond.initialized y_La_has.cls ∈ lw_tbl := ⟨q_tb 500 (by decide +kernel), q_tb 3 (by decide +kernel)⟩
theorem ms_La_has : Cond.instanceMethod y_La_has ∈ lw_tbl ∧ Cond.selects y_La_has.cls y_La_has y_La_has ∈ lw_tbl := ⟨q_tb 498 (by decide +kernel), q_tb 499 (by decide +kernel)⟩
theorem k_La_size : q_hd y_La_size m_La_size ∈ lw_tbl ∧ Cond.initialized y_La_size.cls ∈ lw_tbl := ⟨q_tb 511 (by decide +kernel), q_tb 3 (by decide +kernel)⟩
theorem ms_La_size : Cond.instanceMethod y_La_size ∈ lw_tbl ∧ Cond.selects y_La_size.cls y_La_size y_La_size ∈ lw_tbl := ⟨q_tb 509 (by decide +kernel), q_tb 510 (by decide +kernel)⟩
theorem k_La_leastWhole : q_hd y_La_leastWhole m_La_leastWhole ∈ lw_tbl ∧ Cond.initialized y_La_leastWhole.cls ∈ lw_tbl := ⟨q_tb 484 (by decide +kernel), q_tb 3 (by decide +kernel)⟩
theorem ms_La_leastWhole : Cond.instanceMethod y_La_leastWhole ∈ lw_tbl ∧ Cond.selects y_La_leastWhole.cls y_La_leastWhole y_La_leastWhole ∈ lw_tbl := ⟨q_tb 482 (by decide +kernel), q_tb 483 (by decide +kernel)⟩
theorem k_La_dutyFrom : q_hd y_La_dutyFrom m_La_dutyFrom ∈ lw_tbl ∧ Cond.initialized y_La_dutyFrom.cls ∈ lw_tbl := ⟨q_tb 488 (by decide +kernel), q_tb 3 (by decide +kernel)⟩
theorem ms_La_dutyFrom : Cond.instanceMethod y_La_dutyFrom ∈ lw_tbl ∧ Cond.selects y_La_dutyFrom.cls y_La_dutyFrom y_La_dutyFrom ∈ lw_tbl := ⟨q_tb 486 (by decide +kernel), q_tb 487 (by decide +kernel)⟩
theorem k_La_nextFrom : q_hd y_La_nextFrom m_La_nextFrom ∈ lw_tbl ∧ Cond.initialized y_La_nextFrom.cls ∈ lw_tbl := ⟨q_tb 492 (by decide +kernel), q_tb 3 (by decide +kernel)⟩
theorem ms_La_nextFrom : Cond.instanceMethod y_La_nextFrom ∈ lw_tbl ∧ Cond.selects y_La_nextFrom.cls y_La_nextFrom y_La_nextFrom ∈ lw_tbl := ⟨q_tb 490 (by decide +kernel), q_tb 491 (by decide +kernel)⟩
theorem k_La_isNearer : q_hd y_La_isNearer m_La_isNearer ∈ lw_tbl ∧ Cond.initialized y_La_isNearer.cls ∈ lw_tbl := ⟨q_tb 496 (by decide +kernel), q_tb 3 (by decide +kernel)⟩
theorem ms_La_isNearer : Cond.instanceMethod y_La_isNearer ∈ lw_tbl ∧ Cond.selects y_La_isNearer.cls y_La_isNearer y_La_isNearer ∈ lw_tbl := ⟨q_tb 495 (by decide +kernel), q_ts (n := 10) 18 (by decide +kernel)⟩
theorem k_Li_countTyped : q_hd y_Li_countTyped m_Li_countTyped ∈ lw_tbl ∧ Cond.initialized y_Li_countTyped.cls ∈ lw_tbl := ⟨q_tb 186 (by decide +kernel), q_tb 2 (by decide +kernel)⟩
theorem ms_Li_countTyped : Cond.static y_Li_countTyped ∈ lw_tbl := q_tb 185 (by decide +kernel)
theorem k_Li_areVisible : q_hd y_Li_areVisible m_Li_areVisible ∈ lw_tbl ∧ Cond.initialized y_Li_areVisible.cls ∈ lw_tbl := ⟨q_tb 192 (by decide +kernel), q_tb 2 (by decide +kernel)⟩
theorem ms_Li_areVisible : Cond.static y_Li_areVisible ∈ lw_tbl := q_tb 191 (by decide +kernel)
theorem k_Li_byteOf : q_hd y_Li_byteOf m_Li_byteOf ∈ lw_tbl ∧ Cond.initialized y_Li_byteOf.cls ∈ lw_tbl := ⟨q_tb 189 (by decide +kernel), q_tb 2 (by decide +kernel)⟩
theorem ms_Li_byteOf : Cond.static y_Li_byteOf ∈ lw_tbl := q_tb 188 (by decide +kernel)
theorem k_Li_append : q_hd y_Li_append m_Li_append ∈ lw_tbl ∧ Cond.initialized y_Li_append.cls ∈ lw_tbl := ⟨q_tb 264 (by decide +kernel), q_tb 2 (by decide +kernel)⟩
theorem ms_Li_append : Cond.instanceMethod y_Li_append ∈ lw_tbl ∧ Cond.selects y_Li_append.cls y_Li_append y_Li_append ∈ lw_tbl := ⟨q_tb 262 (by decide +kernel), q_tb 263 (by decide +kernel)⟩
theorem k_Li_clear : q_hd y_Li_clear m_Li_clear ∈ lw_tbl ∧ Cond.initialized y_Li_clear.cls ∈ lw_tbl := ⟨q_tb 318 (by decide +kernel), q_tb 2 (by decide +kernel)⟩
theorem ms_Li_clear : Cond.instanceMethod y_Li_clear ∈ lw_tbl ∧ Cond.selects y_Li_clear.cls y_Li_clear y_Li_clear ∈ lw_tbl := ⟨q_tb 316 (by decide +kernel), q_tb 317 (by decide +kernel)⟩
theorem k_Li_signAt : q_hd y_Li_signAt m_Li_signAt ∈ lw_tbl ∧ Cond.initialized y_Li_signAt.cls ∈ lw_tbl := ⟨q_tb 287 (by decide +kernel), q_tb 2 (by decide +kernel)⟩
theorem ms_Li_signAt : Cond.instanceMethod y_Li_signAt ∈ lw_tbl ∧ Cond.selects y_Li_signAt.cls y_Li_signAt y_Li_signAt ∈ lw_tbl := ⟨q_tb 286 (by decide +kernel), q_ts (n := 3) 2 (by decide +kernel)⟩
theorem k_Li_temporalsBefore : q_hd y_Li_temporalsBefore m_Li_temporalsBefore ∈ lw_tbl ∧ Cond.initialized y_Li_temporalsBefore.cls ∈ lw_tbl := ⟨q_tb 283 (by decide +kernel), q_tb 2 (by decide +kernel)⟩
theorem ms_Li_temporalsBefore : Cond.instanceMethod y_Li_temporalsBefore ∈ lw_tbl ∧ Cond.selects y_Li_temporalsBefore.cls y_Li_temporalsBefore y_Li_temporalsBefore ∈ lw_tbl := ⟨q_tb 282 (by decide +kernel), q_ts (n := 3) 1 (by decide +kernel)⟩
theorem k_Li_readInto : q_hd y_Li_readInto m_Li_readInto ∈ lw_tbl ∧ Cond.initialized y_Li_readInto.cls ∈ lw_tbl := ⟨q_tb 275 (by decide +kernel), q_tb 2 (by decide +kernel)⟩
theorem ms_Li_readInto : Cond.instanceMethod y_Li_readInto ∈ lw_tbl ∧ Cond.selects y_Li_readInto.cls y_Li_readInto y_Li_readInto ∈ lw_tbl := ⟨q_tb 273 (by decide +kernel), q_tb 274 (by decide +kernel)⟩
theorem k_Li_readLevel : q_hd y_Li_readLevel m_Li_readLevel ∈ lw_tbl ∧ Cond.initialized y_Li_readLevel.cls ∈ lw_tbl := ⟨q_tb 294 (by decide +kernel), q_tb 2 (by decide +kernel)⟩
theorem ms_Li_readLevel : Cond.instanceMethod y_Li_readLevel ∈ lw_tbl ∧ Cond.selects y_Li_readLevel.cls y_Li_readLevel y_Li_readLevel ∈ lw_tbl := ⟨q_tb 293 (by decide +kernel), q_ts (n := 3) 3 (by decide +kernel)⟩
theorem k_Li_readSimple : q_hd y_Li_readSimple m_Li_readSimple ∈ lw_tbl ∧ Cond.initialized y_Li_readSimple.cls ∈ lw_tbl := ⟨q_tb 298 (by decide +kernel), q_tb 2 (by decide +kernel)⟩
theorem ms_Li_readSimple : Cond.instanceMethod y_Li_readSimple ∈ lw_tbl ∧ Cond.selects y_Li_readSimple.cls y_Li_readSimple y_Li_readSimple ∈ lw_tbl := ⟨q_tb 297 (by decide +kernel), q_ts (n := 3) 4 (by decide +kernel)⟩
theorem k_Li_readBracket : q_hd y_Li_readBracket m_Li_readBracket ∈ lw_tbl ∧ Cond.initialized y_Li_readBracket.cls ∈ lw_tbl := ⟨q_tb 307 (by decide +kernel), q_tb 2 (by decide +kernel)⟩
theorem ms_Li_readBracket : Cond.instanceMethod y_Li_readBracket ∈ lw_tbl ∧ Cond.selects y_Li_readBracket.cls y_Li_readBracket y_Li_readBracket ∈ lw_tbl := ⟨q_tb 306 (by decide +kernel), q_ts (n := 3) 5 (by decide +kernel)⟩
theorem k_Li_levelJoinedBy : q_hd y_Li_levelJoinedBy m_Li_levelJoinedBy ∈ lw_tbl ∧ Cond.initialized y_Li_levelJoinedBy.cls ∈ lw_tbl := ⟨q_tb 310 (by decide +kernel), q_tb 2 (by decide +kernel)⟩
theorem ms_Li_levelJoinedBy : Cond.static y_Li_levelJoinedBy ∈ lw_tbl := q_tb 309 (by decide +kernel)
theorem k_Wa_go : q_hd y_Wa_go m_Wa_go ∈ lw_tbl ∧ Cond.initialized y_Wa_go.cls ∈ lw_tbl := ⟨q_tb 477 (by decide +kernel), q_tb 4 (by decide +kernel)⟩
theorem ms_Wa_go : Cond.instanceMethod y_Wa_go ∈ lw_tbl ∧ Cond.selects y_Wa_go.cls y_Wa_go y_Wa_go ∈ lw_tbl := ⟨q_tb 475 (by decide +kernel), q_tb 476 (by decide +kernel)⟩
theorem k_Wa_exists : q_hd y_Wa_exists m_Wa_exists ∈ lw_tbl ∧ Cond.initialized y_Wa_exists.cls ∈ lw_tbl := ⟨q_tb 530 (by decide +kernel), q_tb 4 (by decide +kernel)⟩
theorem ms_Wa_exists : Cond.instanceMethod y_Wa_exists ∈ lw_tbl ∧ Cond.selects y_Wa_exists.cls y_Wa_exists y_Wa_exists ∈ lw_tbl := ⟨q_tb 528 (by decide +kernel), q_tb 529 (by decide +kernel)⟩
theorem k_Wa_stemLength : q_hd y_Wa_stemLength m_Wa_stemLength ∈ lw_tbl ∧ Cond.initialized y_Wa_stemLength.cls ∈ lw_tbl := ⟨q_tb 541 (by decide +kernel), q_tb 4 (by decide +kernel)⟩
theorem ms_Wa_stemLength : Cond.instanceMethod y_Wa_stemLength ∈ lw_tbl ∧ Cond.selects y_Wa_stemLength.cls y_Wa_stemLength y_Wa_stemLength ∈ lw_tbl := ⟨q_tb 539 (by decide +kernel), q_tb 540 (by decide +kernel)⟩
theorem k_Wa_loopLength : q_hd y_Wa_loopLength m_Wa_loopLength ∈ lw_tbl ∧ Cond.initialized y_Wa_loopLength.cls ∈ lw_tbl := ⟨q_tb 552 (by decide +kernel), q_tb 4 (by decide +kernel)⟩
theorem ms_Wa_loopLength : Cond.instanceMethod y_Wa_loopLength ∈ lw_tbl ∧ Cond.selects y_Wa_loopLength.cls y_Wa_loopLength y_Wa_loopLength ∈ lw_tbl := ⟨q_tb 550 (by decide +kernel), q_tb 551 (by decide +kernel)⟩
theorem k_Wa_size : q_hd y_Wa_size m_Wa_size ∈ lw_tbl ∧ Cond.initialized y_Wa_size.cls ∈ lw_tbl := ⟨q_tb 564 (by decide +kernel), q_tb 4 (by decide +kernel)⟩
theorem ms_Wa_size : Cond.instanceMethod y_Wa_size ∈ lw_tbl ∧ Cond.selects y_Wa_size.cls y_Wa_size y_Wa_size ∈ lw_tbl := ⟨q_tb 562 (by decide +kernel), q_tb 563 (by decide +kernel)⟩
theorem k_Wa_stateAt : q_hd y_Wa_stateAt m_Wa_stateAt ∈ lw_tbl ∧ Cond.initialized y_Wa_stateAt.cls ∈ lw_tbl := ⟨q_tb 570 (by decide +kernel), q_tb 4 (by decide +kernel)⟩
theorem ms_Wa_stateAt : Cond.instanceMethod y_Wa_stateAt ∈ lw_tbl ∧ Cond.selects y_Wa_stateAt.cls y_Wa_stateAt y_Wa_stateAt ∈ lw_tbl := ⟨q_tb 568 (by decide +kernel), q_tb 569 (by decide +kernel)⟩
theorem k_Lw_type : q_hd y_Lw_type m_Lw_type ∈ lw_tbl ∧ Cond.initialized y_Lw_type.cls ∈ lw_tbl := ⟨q_tb 178 (by decide +kernel), q_tb 0 (by decide +kernel)⟩
theorem ms_Lw_type : Cond.static y_Lw_type ∈ lw_tbl := q_tb 177 (by decide +kernel)
theorem k_Lw_formula : q_hd y_Lw_formula m_Lw_formula ∈ lw_tbl ∧ Cond.initialized y_Lw_formula.cls ∈ lw_tbl := ⟨q_tb 267 (by decide +kernel), q_tb 0 (by decide +kernel)⟩
theorem ms_Lw_formula : Cond.static y_Lw_formula ∈ lw_tbl := q_tb 266 (by decide +kernel)
theorem k_Lw_states : q_hd y_Lw_states m_Lw_states ∈ lw_tbl ∧ Cond.initialized y_Lw_states.cls ∈ lw_tbl := ⟨q_tb 326 (by decide +kernel), q_tb 0 (by decide +kernel)⟩
theorem ms_Lw_states : Cond.static y_Lw_states ∈ lw_tbl := q_tb 325 (by decide +kernel)
theorem k_Lw_isAt : q_hd y_Lw_isAt m_Lw_isAt ∈ lw_tbl ∧ Cond.initialized y_Lw_isAt.cls ∈ lw_tbl := ⟨q_tb 358 (by decide +kernel), q_tb 0 (by decide +kernel)⟩
theorem ms_Lw_isAt : Cond.static y_Lw_isAt ∈ lw_tbl := q_tb 357 (by decide +kernel)
theorem k_Lw_leads : q_hd y_Lw_leads m_Lw_leads ∈ lw_tbl ∧ Cond.initialized y_Lw_leads.cls ∈ lw_tbl := ⟨q_tb 401 (by decide +kernel), q_tb 0 (by decide +kernel)⟩
theorem ms_Lw_leads : Cond.static y_Lw_leads ∈ lw_tbl := q_tb 400 (by decide +kernel)
theorem k_Lw_lasts : q_hd y_Lw_lasts m_Lw_lasts ∈ lw_tbl ∧ Cond.initialized y_Lw_lasts.cls ∈ lw_tbl := ⟨q_tb 412 (by decide +kernel), q_tb 0 (by decide +kernel)⟩
theorem ms_Lw_lasts : Cond.static y_Lw_lasts ∈ lw_tbl := q_tb 411 (by decide +kernel)
theorem k_Lw_lasting : q_hd y_Lw_lasting m_Lw_lasting ∈ lw_tbl ∧ Cond.initialized y_Lw_lasting.cls ∈ lw_tbl := ⟨q_tb 503 (by decide +kernel), q_tb 0 (by decide +kernel)⟩
theorem ms_Lw_lasting : Cond.static y_Lw_lasting ∈ lw_tbl := q_tb 502 (by decide +kernel)
theorem k_Lw_promises : q_hd y_Lw_promises m_Lw_promises ∈ lw_tbl ∧ Cond.initialized y_Lw_promises.cls ∈ lw_tbl := ⟨q_tb 514 (by decide +kernel), q_tb 0 (by decide +kernel)⟩
theorem ms_Lw_promises : Cond.static y_Lw_promises ∈ lw_tbl := q_tb 513 (by decide +kernel)
theorem k_Lw_can : q_hd y_Lw_can m_Lw_can ∈ lw_tbl ∧ Cond.initialized y_Lw_can.cls ∈ lw_tbl := ⟨q_tb 522 (by decide +kernel), q_tb 0 (by decide +kernel)⟩
theorem ms_Lw_can : Cond.static y_Lw_can ∈ lw_tbl := q_tb 521 (by decide +kernel)
theorem k_Lw_stem : q_hd y_Lw_stem m_Lw_stem ∈ lw_tbl ∧ Cond.initialized y_Lw_stem.cls ∈ lw_tbl := ⟨q_tb 533 (by decide +kernel), q_tb 0 (by decide +kernel)⟩
theorem ms_Lw_stem : Cond.static y_Lw_stem ∈ lw_tbl := q_tb 532 (by decide +kernel)
theorem k_Lw_loop : q_hd y_Lw_loop m_Lw_loop ∈ lw_tbl ∧ Cond.initialized y_Lw_loop.cls ∈ lw_tbl := ⟨q_tb 544 (by decide +kernel), q_tb 0 (by decide +kernel)⟩
theorem ms_Lw_loop : Cond.static y_Lw_loop ∈ lw_tbl := q_tb 543 (by decide +kernel)
theorem k_Lw_step : q_hd y_Lw_step m_Lw_step ∈ lw_tbl ∧ Cond.initialized y_Lw_step.cls ∈ lw_tbl := ⟨q_tb 555 (by decide +kernel), q_tb 0 (by decide +kernel)⟩
theorem ms_Lw_step : Cond.static y_Lw_step ∈ lw_tbl := q_tb 554 (by decide +kernel)
theorem k_Lw_shape : q_hd y_Lw_shape m_Lw_shape ∈ lw_tbl ∧ Cond.initialized y_Lw_shape.cls ∈ lw_tbl := ⟨q_tb 573 (by decide +kernel), q_tb 0 (by decide +kernel)⟩
theorem ms_Lw_shape : Cond.static y_Lw_shape ∈ lw_tbl := q_tb 572 (by decide +kernel)
theorem k_Lw_set : q_hd y_Lw_set m_Lw_set ∈ lw_tbl ∧ Cond.initialized y_Lw_set.cls ∈ lw_tbl := ⟨q_tb 592 (by decide +kernel), q_tb 0 (by decide +kernel)⟩
theorem ms_Lw_set : Cond.static y_Lw_set ∈ lw_tbl := q_tb 591 (by decide +kernel)
theorem k_Lw_adopt : q_hd y_Lw_adopt m_Lw_adopt ∈ lw_tbl ∧ Cond.initialized y_Lw_adopt.cls ∈ lw_tbl := ⟨q_tb 605 (by decide +kernel), q_tb 0 (by decide +kernel)⟩
theorem ms_Lw_adopt : Cond.static y_Lw_adopt ∈ lw_tbl := q_tb 604 (by decide +kernel)
theorem k_Lw_letter : q_hd y_Lw_letter m_Lw_letter ∈ lw_tbl ∧ Cond.initialized y_Lw_letter.cls ∈ lw_tbl := ⟨q_tb 620 (by decide +kernel), q_tb 0 (by decide +kernel)⟩
theorem ms_Lw_letter : Cond.static y_Lw_letter ∈ lw_tbl := q_tb 619 (by decide +kernel)
theorem k_Lw_holds : q_hd y_Lw_holds m_Lw_holds ∈ lw_tbl ∧ Cond.initialized y_Lw_holds.cls ∈ lw_tbl := ⟨q_tb 640 (by decide +kernel), q_tb 0 (by decide +kernel)⟩
theorem ms_Lw_holds : Cond.static y_Lw_holds ∈ lw_tbl := q_tb 639 (by decide +kernel)
theorem k_Ar_fill : q_hd y_Ar_fill m_Ar_fill ∈ lw_tbl ∧ Cond.initialized y_Ar_fill.cls ∈ lw_tbl := ⟨q_tb 480 (by decide +kernel), q_tb 14 (by decide +kernel)⟩
theorem ms_Ar_fill : Cond.static y_Ar_fill ∈ lw_tbl := q_tb 479 (by decide +kernel)
theorem k_D_init : q_hd y_D_init m_D_init ∈ lw_tbl ∧ Cond.initialized y_D_init.cls ∈ lw_tbl := ⟨q_tb 19 (by decide +kernel), q_tb 1 (by decide +kernel)⟩
theorem k_Mo_init : q_hd y_Mo_init m_Mo_init ∈ lw_tbl ∧ Cond.initialized y_Mo_init.cls ∈ lw_tbl := ⟨q_tb 677 (by decide +kernel), q_tb 7 (by decide +kernel)⟩
theorem k_Fo_init : q_hd y_Fo_init m_Fo_init ∈ lw_tbl ∧ Cond.initialized y_Fo_init.cls ∈ lw_tbl := ⟨q_tb 118 (by decide +kernel), q_tb 6 (by decide +kernel)⟩
theorem k_Gw_init : q_hd y_Gw_init m_Gw_init ∈ lw_tbl ∧ Cond.initialized y_Gw_init.cls ∈ lw_tbl := ⟨q_tb 102 (by decide +kernel), q_tb 5 (by decide +kernel)⟩
theorem k_La_init : q_hd y_La_init m_La_init ∈ lw_tbl ∧ Cond.initialized y_La_init.cls ∈ lw_tbl := ⟨q_tb 44 (by decide +kernel), q_tb 3 (by decide +kernel)⟩
theorem k_Li_init : q_hd y_Li_init m_Li_init ∈ lw_tbl ∧ Cond.initialized y_Li_init.cls ∈ lw_tbl := ⟨q_tb 27 (by decide +kernel), q_tb 2 (by decide +kernel)⟩
theorem k_Wa_init : q_hd y_Wa_init m_Wa_init ∈ lw_tbl ∧ Cond.initialized y_Wa_init.cls ∈ lw_tbl := ⟨q_tb 83 (by decide +kernel), q_tb 4 (by decide +kernel)⟩
