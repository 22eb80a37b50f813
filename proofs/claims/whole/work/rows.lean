section
-- ===== PART A: goes FIRST, ahead of the names: the tables' words, and 'selects' of the private methods out of them =====
/-- a private method of a class that the tables say can be made, by its rows of tables_1 -/
def lw_okq (q : MethodName × Nat) : Prop := (q.1.cls ≠ "java/lang/invoke/MethodHandle" ∧ q.1.cls ≠ "java/lang/invoke/VarHandle") ∧ Cond.instantiable q.1.cls q.2 ∈ tables_1 ∧ Cond.privateMethod q.1 ∈ tables_1 ∧ Cond.instanceMethod q.1 ∈ tables_1
theorem lw_p0 : lw_okq (⟨"RoofOrdinances$OrderReader", "readOrder", "()Z"⟩, 6) := ⟨⟨by decide +kernel, by decide +kernel⟩, List.mem_of_getElem? (i := 158) (by decide +kernel), List.mem_of_getElem? (i := 414) (by decide +kernel), List.mem_of_getElem? (i := 415) (by decide +kernel)⟩
theorem lw_p1 : lw_okq (⟨"RoofOrdinances$OrderReader", "readOwner", "()Z"⟩, 6) := ⟨⟨by decide +kernel, by decide +kernel⟩, List.mem_of_getElem? (i := 158) (by decide +kernel), List.mem_of_getElem? (i := 422) (by decide +kernel), List.mem_of_getElem? (i := 423) (by decide +kernel)⟩
theorem lw_p2 : lw_okq (⟨"RoofOrdinances$OrderReader", "digitAt", "(I)I"⟩, 6) := ⟨⟨by decide +kernel, by decide +kernel⟩, List.mem_of_getElem? (i := 158) (by decide +kernel), List.mem_of_getElem? (i := 426) (by decide +kernel), List.mem_of_getElem? (i := 427) (by decide +kernel)⟩
theorem lw_p3 : lw_okq (⟨"RoofOrdinances$OrderReader", "readSign", "(C)Z"⟩, 6) := ⟨⟨by decide +kernel, by decide +kernel⟩, List.mem_of_getElem? (i := 158) (by decide +kernel), List.mem_of_getElem? (i := 431) (by decide +kernel), List.mem_of_getElem? (i := 432) (by decide +kernel)⟩
theorem lw_p4 : lw_okq (⟨"RoofOrdinances$OrderReader", "readNumber", "(Z)Z"⟩, 6) := ⟨⟨by decide +kernel, by decide +kernel⟩, List.mem_of_getElem? (i := 158) (by decide +kernel), List.mem_of_getElem? (i := 435) (by decide +kernel), List.mem_of_getElem? (i := 436) (by decide +kernel)⟩
theorem lw_p5 : lw_okq (⟨"RoofOrdinances", "carryOutOrder", "()I"⟩, 12) := ⟨⟨by decide +kernel, by decide +kernel⟩, List.mem_of_getElem? (i := 14) (by decide +kernel), List.mem_of_getElem? (i := 453) (by decide +kernel), List.mem_of_getElem? (i := 454) (by decide +kernel)⟩
theorem lw_p6 : lw_okq (⟨"RoofOrdinances", "keepStop", "(II)V"⟩, 12) := ⟨⟨by decide +kernel, by decide +kernel⟩, List.mem_of_getElem? (i := 14) (by decide +kernel), List.mem_of_getElem? (i := 460) (by decide +kernel), List.mem_of_getElem? (i := 461) (by decide +kernel)⟩
theorem lw_p7 : lw_okq (⟨"RoofOrdinances$Ways", "joinOver", "(LRoofOrdinances$City;I)V"⟩, 2) := ⟨⟨by decide +kernel, by decide +kernel⟩, List.mem_of_getElem? (i := 129) (by decide +kernel), List.mem_of_getElem? (i := 538) (by decide +kernel), List.mem_of_getElem? (i := 539) (by decide +kernel)⟩
theorem lw_p8 : lw_okq (⟨"RoofOrdinances$Ways", "rename", "(II)V"⟩, 2) := ⟨⟨by decide +kernel, by decide +kernel⟩, List.mem_of_getElem? (i := 129) (by decide +kernel), List.mem_of_getElem? (i := 545) (by decide +kernel), List.mem_of_getElem? (i := 546) (by decide +kernel)⟩
theorem lw_p9 : lw_okq (⟨"RoofOrdinances$Ways", "spread", "(LRoofOrdinances$City;)Z"⟩, 2) := ⟨⟨by decide +kernel, by decide +kernel⟩, List.mem_of_getElem? (i := 129) (by decide +kernel), List.mem_of_getElem? (i := 554) (by decide +kernel), List.mem_of_getElem? (i := 555) (by decide +kernel)⟩
theorem lw_p10 : lw_okq (⟨"RoofOrdinances$Ways", "raise", "(II)Z"⟩, 2) := ⟨⟨by decide +kernel, by decide +kernel⟩, List.mem_of_getElem? (i := 129) (by decide +kernel), List.mem_of_getElem? (i := 559) (by decide +kernel), List.mem_of_getElem? (i := 560) (by decide +kernel)⟩
theorem lw_p11 : lw_okq (⟨"RoofOrdinances$Ways", "oneWalkFurther", "(LRoofOrdinances$City;II)I"⟩, 2) := ⟨⟨by decide +kernel, by decide +kernel⟩, List.mem_of_getElem? (i := 129) (by decide +kernel), List.mem_of_getElem? (i := 572) (by decide +kernel), List.mem_of_getElem? (i := 573) (by decide +kernel)⟩
theorem lw_p12 : lw_okq (⟨"RoofOrdinancesModel", "records", "()V"⟩, 15) := ⟨⟨by decide +kernel, by decide +kernel⟩, List.mem_of_getElem? (i := 644) (by decide +kernel), List.mem_of_getElem? (i := 707) (by decide +kernel), List.mem_of_getElem? (i := 708) (by decide +kernel)⟩
theorem lw_p13 : lw_okq (⟨"RoofOrdinancesModel", "of", "(II)I"⟩, 15) := ⟨⟨by decide +kernel, by decide +kernel⟩, List.mem_of_getElem? (i := 644) (by decide +kernel), List.mem_of_getElem? (i := 714) (by decide +kernel), List.mem_of_getElem? (i := 715) (by decide +kernel)⟩
theorem lw_p14 : lw_okq (⟨"RoofOrdinancesModel", "lays", "(III)V"⟩, 15) := ⟨⟨by decide +kernel, by decide +kernel⟩, List.mem_of_getElem? (i := 644) (by decide +kernel), List.mem_of_getElem? (i := 718) (by decide +kernel), List.mem_of_getElem? (i := 719) (by decide +kernel)⟩
theorem lw_p15 : lw_okq (⟨"RoofOrdinancesModel", "hasLine", "(I)Z"⟩, 15) := ⟨⟨by decide +kernel, by decide +kernel⟩, List.mem_of_getElem? (i := 644) (by decide +kernel), List.mem_of_getElem? (i := 722) (by decide +kernel), List.mem_of_getElem? (i := 723) (by decide +kernel)⟩
def lw_privs_1 : List (MethodName × Nat) := [(⟨"RoofOrdinances$OrderReader", "readOrder", "()Z"⟩, 6), (⟨"RoofOrdinances$OrderReader", "readOwner", "()Z"⟩, 6), (⟨"RoofOrdinances$OrderReader", "digitAt", "(I)I"⟩, 6), (⟨"RoofOrdinances$OrderReader", "readSign", "(C)Z"⟩, 6), (⟨"RoofOrdinances$OrderReader", "readNumber", "(Z)Z"⟩, 6), (⟨"RoofOrdinances", "carryOutOrder", "()I"⟩, 12), (⟨"RoofOrdinances", "keepStop", "(II)V"⟩, 12), (⟨"RoofOrdinances$Ways", "joinOver", "(LRoofOrdinances$City;I)V"⟩, 2), (⟨"RoofOrdinances$Ways", "rename", "(II)V"⟩, 2), (⟨"RoofOrdinances$Ways", "spread", "(LRoofOrdinances$City;)Z"⟩, 2), (⟨"RoofOrdinances$Ways", "raise", "(II)Z"⟩, 2), (⟨"RoofOrdinances$Ways", "oneWalkFurther", "(LRoofOrdinances$City;II)I"⟩, 2), (⟨"RoofOrdinancesModel", "records", "()V"⟩, 15), (⟨"RoofOrdinancesModel", "of", "(II)I"⟩, 15), (⟨"RoofOrdinancesModel", "lays", "(III)V"⟩, 15), (⟨"RoofOrdinancesModel", "hasLine", "(I)Z"⟩, 15)]
theorem lw_r1 : ∀ q ∈ lw_privs_1, lw_okq q := List.forall_mem_cons.mpr ⟨lw_p0, List.forall_mem_cons.mpr ⟨lw_p1, List.forall_mem_cons.mpr ⟨lw_p2, List.forall_mem_cons.mpr ⟨lw_p3, List.forall_mem_cons.mpr ⟨lw_p4, List.forall_mem_cons.mpr ⟨lw_p5, List.forall_mem_cons.mpr ⟨lw_p6, List.forall_mem_cons.mpr ⟨lw_p7, List.forall_mem_cons.mpr ⟨lw_p8, List.forall_mem_cons.mpr ⟨lw_p9, List.forall_mem_cons.mpr ⟨lw_p10, List.forall_mem_cons.mpr ⟨lw_p11, List.forall_mem_cons.mpr ⟨lw_p12, List.forall_mem_cons.mpr ⟨lw_p13, List.forall_mem_cons.mpr ⟨lw_p14, List.forall_mem_cons.mpr ⟨lw_p15, fun _ h => absurd h List.not_mem_nil⟩⟩⟩⟩⟩⟩⟩⟩⟩⟩⟩⟩⟩⟩⟩⟩
theorem lw_p16 : lw_okq (⟨"RoofOrdinancesModel", "removes", "(I)V"⟩, 15) := ⟨⟨by decide +kernel, by decide +kernel⟩, List.mem_of_getElem? (i := 644) (by decide +kernel), List.mem_of_getElem? (i := 726) (by decide +kernel), List.mem_of_getElem? (i := 727) (by decide +kernel)⟩
theorem lw_p17 : lw_okq (⟨"RoofOrdinancesModel", "goChimney", "(I)I"⟩, 15) := ⟨⟨by decide +kernel, by decide +kernel⟩, List.mem_of_getElem? (i := 644) (by decide +kernel), List.mem_of_getElem? (i := 741) (by decide +kernel), List.mem_of_getElem? (i := 742) (by decide +kernel)⟩
theorem lw_p18 : lw_okq (⟨"RoofOrdinancesModel", "smoke", "()I"⟩, 15) := ⟨⟨by decide +kernel, by decide +kernel⟩, List.mem_of_getElem? (i := 644) (by decide +kernel), List.mem_of_getElem? (i := 745) (by decide +kernel), List.mem_of_getElem? (i := 746) (by decide +kernel)⟩
theorem lw_p19 : lw_okq (⟨"RoofOrdinancesModel", "smokeBy", "(I)I"⟩, 15) := ⟨⟨by decide +kernel, by decide +kernel⟩, List.mem_of_getElem? (i := 644) (by decide +kernel), List.mem_of_getElem? (i := 749) (by decide +kernel), List.mem_of_getElem? (i := 750) (by decide +kernel)⟩
theorem lw_p20 : lw_okq (⟨"RoofOrdinancesModel", "smokeOf", "(II)I"⟩, 15) := ⟨⟨by decide +kernel, by decide +kernel⟩, List.mem_of_getElem? (i := 644) (by decide +kernel), List.mem_of_getElem? (i := 756) (by decide +kernel), List.mem_of_getElem? (i := 757) (by decide +kernel)⟩
theorem lw_p21 : lw_okq (⟨"RoofOrdinancesModel", "ofOwner", "(II)I"⟩, 15) := ⟨⟨by decide +kernel, by decide +kernel⟩, List.mem_of_getElem? (i := 644) (by decide +kernel), List.mem_of_getElem? (i := 777) (by decide +kernel), List.mem_of_getElem? (i := 778) (by decide +kernel)⟩
theorem lw_p22 : lw_okq (⟨"RoofOrdinancesModel", "goHang", "(II)I"⟩, 15) := ⟨⟨by decide +kernel, by decide +kernel⟩, List.mem_of_getElem? (i := 644) (by decide +kernel), List.mem_of_getElem? (i := 789) (by decide +kernel), List.mem_of_getElem? (i := 790) (by decide +kernel)⟩
theorem lw_p23 : lw_okq (⟨"RoofOrdinancesModel", "reasonToHang", "(II)I"⟩, 15) := ⟨⟨by decide +kernel, by decide +kernel⟩, List.mem_of_getElem? (i := 644) (by decide +kernel), List.mem_of_getElem? (i := 793) (by decide +kernel), List.mem_of_getElem? (i := 794) (by decide +kernel)⟩
theorem lw_p24 : lw_okq (⟨"RoofOrdinancesModel", "bothOf", "(I)I"⟩, 15) := ⟨⟨by decide +kernel, by decide +kernel⟩, List.mem_of_getElem? (i := 644) (by decide +kernel), List.mem_of_getElem? (i := 797) (by decide +kernel), List.mem_of_getElem? (i := 798) (by decide +kernel)⟩
theorem lw_p25 : lw_okq (⟨"RoofOrdinancesModel", "nearCoops", "()I"⟩, 15) := ⟨⟨by decide +kernel, by decide +kernel⟩, List.mem_of_getElem? (i := 644) (by decide +kernel), List.mem_of_getElem? (i := 807) (by decide +kernel), List.mem_of_getElem? (i := 808) (by decide +kernel)⟩
theorem lw_p26 : lw_okq (⟨"RoofOrdinancesModel", "refuses", "(I)I"⟩, 15) := ⟨⟨by decide +kernel, by decide +kernel⟩, List.mem_of_getElem? (i := 644) (by decide +kernel), List.mem_of_getElem? (i := 811) (by decide +kernel), List.mem_of_getElem? (i := 812) (by decide +kernel)⟩
theorem lw_p27 : lw_okq (⟨"RoofOrdinancesModel", "linesNow", "()I"⟩, 15) := ⟨⟨by decide +kernel, by decide +kernel⟩, List.mem_of_getElem? (i := 644) (by decide +kernel), List.mem_of_getElem? (i := 815) (by decide +kernel), List.mem_of_getElem? (i := 816) (by decide +kernel)⟩
theorem lw_p28 : lw_okq (⟨"RoofOrdinancesModel", "goTake", "(II)I"⟩, 15) := ⟨⟨by decide +kernel, by decide +kernel⟩, List.mem_of_getElem? (i := 644) (by decide +kernel), List.mem_of_getElem? (i := 823) (by decide +kernel), List.mem_of_getElem? (i := 824) (by decide +kernel)⟩
theorem lw_p29 : lw_okq (⟨"RoofOrdinancesModel", "goWalk", "(II)I"⟩, 15) := ⟨⟨by decide +kernel, by decide +kernel⟩, List.mem_of_getElem? (i := 644) (by decide +kernel), List.mem_of_getElem? (i := 834) (by decide +kernel), List.mem_of_getElem? (i := 835) (by decide +kernel)⟩
theorem lw_p30 : lw_okq (⟨"RoofOrdinancesModel", "reasonToWalk", "(III)I"⟩, 15) := ⟨⟨by decide +kernel, by decide +kernel⟩, List.mem_of_getElem? (i := 644) (by decide +kernel), List.mem_of_getElem? (i := 838) (by decide +kernel), List.mem_of_getElem? (i := 839) (by decide +kernel)⟩
theorem lw_p31 : lw_okq (⟨"RoofOrdinancesModel", "goDay", "()I"⟩, 15) := ⟨⟨by decide +kernel, by decide +kernel⟩, List.mem_of_getElem? (i := 644) (by decide +kernel), List.mem_of_getElem? (i := 849) (by decide +kernel), List.mem_of_getElem? (i := 850) (by decide +kernel)⟩
def lw_privs_2 : List (MethodName × Nat) := [(⟨"RoofOrdinancesModel", "removes", "(I)V"⟩, 15), (⟨"RoofOrdinancesModel", "goChimney", "(I)I"⟩, 15), (⟨"RoofOrdinancesModel", "smoke", "()I"⟩, 15), (⟨"RoofOrdinancesModel", "smokeBy", "(I)I"⟩, 15), (⟨"RoofOrdinancesModel", "smokeOf", "(II)I"⟩, 15), (⟨"RoofOrdinancesModel", "ofOwner", "(II)I"⟩, 15), (⟨"RoofOrdinancesModel", "goHang", "(II)I"⟩, 15), (⟨"RoofOrdinancesModel", "reasonToHang", "(II)I"⟩, 15), (⟨"RoofOrdinancesModel", "bothOf", "(I)I"⟩, 15), (⟨"RoofOrdinancesModel", "nearCoops", "()I"⟩, 15), (⟨"RoofOrdinancesModel", "refuses", "(I)I"⟩, 15), (⟨"RoofOrdinancesModel", "linesNow", "()I"⟩, 15), (⟨"RoofOrdinancesModel", "goTake", "(II)I"⟩, 15), (⟨"RoofOrdinancesModel", "goWalk", "(II)I"⟩, 15), (⟨"RoofOrdinancesModel", "reasonToWalk", "(III)I"⟩, 15), (⟨"RoofOrdinancesModel", "goDay", "()I"⟩, 15)]
theorem lw_r2 : ∀ q ∈ lw_privs_2, lw_okq q := List.forall_mem_cons.mpr ⟨lw_p16, List.forall_mem_cons.mpr ⟨lw_p17, List.forall_mem_cons.mpr ⟨lw_p18, List.forall_mem_cons.mpr ⟨lw_p19, List.forall_mem_cons.mpr ⟨lw_p20, List.forall_mem_cons.mpr ⟨lw_p21, List.forall_mem_cons.mpr ⟨lw_p22, List.forall_mem_cons.mpr ⟨lw_p23, List.forall_mem_cons.mpr ⟨lw_p24, List.forall_mem_cons.mpr ⟨lw_p25, List.forall_mem_cons.mpr ⟨lw_p26, List.forall_mem_cons.mpr ⟨lw_p27, List.forall_mem_cons.mpr ⟨lw_p28, List.forall_mem_cons.mpr ⟨lw_p29, List.forall_mem_cons.mpr ⟨lw_p30, List.forall_mem_cons.mpr ⟨lw_p31, fun _ h => absurd h List.not_mem_nil⟩⟩⟩⟩⟩⟩⟩⟩⟩⟩⟩⟩⟩⟩⟩⟩
theorem lw_p32 : lw_okq (⟨"RoofOrdinancesModel", "cleanNow", "()I"⟩, 15) := ⟨⟨by decide +kernel, by decide +kernel⟩, List.mem_of_getElem? (i := 644) (by decide +kernel), List.mem_of_getElem? (i := 853) (by decide +kernel), List.mem_of_getElem? (i := 854) (by decide +kernel)⟩
theorem lw_p33 : lw_okq (⟨"RoofOrdinancesModel", "isClean", "(I)Z"⟩, 15) := ⟨⟨by decide +kernel, by decide +kernel⟩, List.mem_of_getElem? (i := 644) (by decide +kernel), List.mem_of_getElem? (i := 857) (by decide +kernel), List.mem_of_getElem? (i := 858) (by decide +kernel)⟩
theorem lw_p34 : lw_okq (⟨"RoofOrdinancesModel", "isText", "()Z"⟩, 15) := ⟨⟨by decide +kernel, by decide +kernel⟩, List.mem_of_getElem? (i := 644) (by decide +kernel), List.mem_of_getElem? (i := 873) (by decide +kernel), List.mem_of_getElem? (i := 874) (by decide +kernel)⟩
theorem lw_p35 : lw_okq (⟨"RoofOrdinancesModel", "takesOrder", "()V"⟩, 15) := ⟨⟨by decide +kernel, by decide +kernel⟩, List.mem_of_getElem? (i := 644) (by decide +kernel), List.mem_of_getElem? (i := 877) (by decide +kernel), List.mem_of_getElem? (i := 878) (by decide +kernel)⟩
theorem lw_p36 : lw_okq (⟨"RoofOrdinancesModel", "here", "()I"⟩, 15) := ⟨⟨by decide +kernel, by decide +kernel⟩, List.mem_of_getElem? (i := 644) (by decide +kernel), List.mem_of_getElem? (i := 881) (by decide +kernel), List.mem_of_getElem? (i := 882) (by decide +kernel)⟩
theorem lw_p37 : lw_okq (⟨"RoofOrdinancesModel", "takes", "(Z)V"⟩, 15) := ⟨⟨by decide +kernel, by decide +kernel⟩, List.mem_of_getElem? (i := 644) (by decide +kernel), List.mem_of_getElem? (i := 885) (by decide +kernel), List.mem_of_getElem? (i := 886) (by decide +kernel)⟩
theorem lw_p38 : lw_okq (⟨"RoofOrdinancesModel", "takesNumber", "(Z)I"⟩, 15) := ⟨⟨by decide +kernel, by decide +kernel⟩, List.mem_of_getElem? (i := 644) (by decide +kernel), List.mem_of_getElem? (i := 889) (by decide +kernel), List.mem_of_getElem? (i := 890) (by decide +kernel)⟩
theorem lw_p39 : lw_okq (⟨"RoofOrdinancesModel", "doesOrder", "()I"⟩, 15) := ⟨⟨by decide +kernel, by decide +kernel⟩, List.mem_of_getElem? (i := 644) (by decide +kernel), List.mem_of_getElem? (i := 900) (by decide +kernel), List.mem_of_getElem? (i := 901) (by decide +kernel)⟩
theorem lw_p40 : lw_okq (⟨"RoofOrdinancesModel", "chimneysOver", "(I)I"⟩, 15) := ⟨⟨by decide +kernel, by decide +kernel⟩, List.mem_of_getElem? (i := 644) (by decide +kernel), List.mem_of_getElem? (i := 912) (by decide +kernel), List.mem_of_getElem? (i := 913) (by decide +kernel)⟩
theorem lw_p41 : lw_okq (⟨"RoofOrdinancesModel", "ownersAt", "(I)I"⟩, 15) := ⟨⟨by decide +kernel, by decide +kernel⟩, List.mem_of_getElem? (i := 644) (by decide +kernel), List.mem_of_getElem? (i := 916) (by decide +kernel), List.mem_of_getElem? (i := 917) (by decide +kernel)⟩
theorem lw_p42 : lw_okq (⟨"RoofOrdinancesModel", "strongAt", "(I)I"⟩, 15) := ⟨⟨by decide +kernel, by decide +kernel⟩, List.mem_of_getElem? (i := 644) (by decide +kernel), List.mem_of_getElem? (i := 920) (by decide +kernel), List.mem_of_getElem? (i := 921) (by decide +kernel)⟩
theorem lw_p43 : lw_okq (⟨"RoofOrdinancesModel", "linesAt", "(I)I"⟩, 15) := ⟨⟨by decide +kernel, by decide +kernel⟩, List.mem_of_getElem? (i := 644) (by decide +kernel), List.mem_of_getElem? (i := 924) (by decide +kernel), List.mem_of_getElem? (i := 925) (by decide +kernel)⟩
theorem lw_p44 : lw_okq (⟨"RoofOrdinancesModel", "comeTo", "(II)I"⟩, 15) := ⟨⟨by decide +kernel, by decide +kernel⟩, List.mem_of_getElem? (i := 644) (by decide +kernel), List.mem_of_getElem? (i := 928) (by decide +kernel), List.mem_of_getElem? (i := 929) (by decide +kernel)⟩
theorem lw_p45 : lw_okq (⟨"RoofOrdinancesModel", "linesOf", "(IZ)I"⟩, 15) := ⟨⟨by decide +kernel, by decide +kernel⟩, List.mem_of_getElem? (i := 644) (by decide +kernel), List.mem_of_getElem? (i := 940) (by decide +kernel), List.mem_of_getElem? (i := 941) (by decide +kernel)⟩
theorem lw_p46 : lw_okq (⟨"RoofOrdinancesModel", "walksNow", "(I)I"⟩, 15) := ⟨⟨by decide +kernel, by decide +kernel⟩, List.mem_of_getElem? (i := 644) (by decide +kernel), List.mem_of_getElem? (i := 944) (by decide +kernel), List.mem_of_getElem? (i := 945) (by decide +kernel)⟩
theorem lw_p47 : lw_okq (⟨"RoofOrdinancesModel", "hangsNow", "(I)I"⟩, 15) := ⟨⟨by decide +kernel, by decide +kernel⟩, List.mem_of_getElem? (i := 644) (by decide +kernel), List.mem_of_getElem? (i := 948) (by decide +kernel), List.mem_of_getElem? (i := 949) (by decide +kernel)⟩
def lw_privs_3 : List (MethodName × Nat) := [(⟨"RoofOrdinancesModel", "cleanNow", "()I"⟩, 15), (⟨"RoofOrdinancesModel", "isClean", "(I)Z"⟩, 15), (⟨"RoofOrdinancesModel", "isText", "()Z"⟩, 15), (⟨"RoofOrdinancesModel", "takesOrder", "()V"⟩, 15), (⟨"RoofOrdinancesModel", "here", "()I"⟩, 15), (⟨"RoofOrdinancesModel", "takes", "(Z)V"⟩, 15), (⟨"RoofOrdinancesModel", "takesNumber", "(Z)I"⟩, 15), (⟨"RoofOrdinancesModel", "doesOrder", "()I"⟩, 15), (⟨"RoofOrdinancesModel", "chimneysOver", "(I)I"⟩, 15), (⟨"RoofOrdinancesModel", "ownersAt", "(I)I"⟩, 15), (⟨"RoofOrdinancesModel", "strongAt", "(I)I"⟩, 15), (⟨"RoofOrdinancesModel", "linesAt", "(I)I"⟩, 15), (⟨"RoofOrdinancesModel", "comeTo", "(II)I"⟩, 15), (⟨"RoofOrdinancesModel", "linesOf", "(IZ)I"⟩, 15), (⟨"RoofOrdinancesModel", "walksNow", "(I)I"⟩, 15), (⟨"RoofOrdinancesModel", "hangsNow", "(I)I"⟩, 15)]
theorem lw_r3 : ∀ q ∈ lw_privs_3, lw_okq q := List.forall_mem_cons.mpr ⟨lw_p32, List.forall_mem_cons.mpr ⟨lw_p33, List.forall_mem_cons.mpr ⟨lw_p34, List.forall_mem_cons.mpr ⟨lw_p35, List.forall_mem_cons.mpr ⟨lw_p36, List.forall_mem_cons.mpr ⟨lw_p37, List.forall_mem_cons.mpr ⟨lw_p38, List.forall_mem_cons.mpr ⟨lw_p39, List.forall_mem_cons.mpr ⟨lw_p40, List.forall_mem_cons.mpr ⟨lw_p41, List.forall_mem_cons.mpr ⟨lw_p42, List.forall_mem_cons.mpr ⟨lw_p43, List.forall_mem_cons.mpr ⟨lw_p44, List.forall_mem_cons.mpr ⟨lw_p45, List.forall_mem_cons.mpr ⟨lw_p46, List.forall_mem_cons.mpr ⟨lw_p47, fun _ h => absurd h List.not_mem_nil⟩⟩⟩⟩⟩⟩⟩⟩⟩⟩⟩⟩⟩⟩⟩⟩
theorem lw_p48 : lw_okq (⟨"RoofOrdinancesModel", "strengthOf", "(II)I"⟩, 15) := ⟨⟨by decide +kernel, by decide +kernel⟩, List.mem_of_getElem? (i := 644) (by decide +kernel), List.mem_of_getElem? (i := 960) (by decide +kernel), List.mem_of_getElem? (i := 961) (by decide +kernel)⟩
theorem lw_p49 : lw_okq (⟨"RoofOrdinancesModel", "stepsOf", "(II)I"⟩, 15) := ⟨⟨by decide +kernel, by decide +kernel⟩, List.mem_of_getElem? (i := 644) (by decide +kernel), List.mem_of_getElem? (i := 968) (by decide +kernel), List.mem_of_getElem? (i := 969) (by decide +kernel)⟩
theorem lw_p50 : lw_okq (⟨"RoofOrdinancesModel", "furtherFrom", "(II)I"⟩, 15) := ⟨⟨by decide +kernel, by decide +kernel⟩, List.mem_of_getElem? (i := 644) (by decide +kernel), List.mem_of_getElem? (i := 972) (by decide +kernel), List.mem_of_getElem? (i := 973) (by decide +kernel)⟩
theorem lw_p51 : lw_okq (⟨"RoofOrdinancesModel", "sumOf", "(I)I"⟩, 15) := ⟨⟨by decide +kernel, by decide +kernel⟩, List.mem_of_getElem? (i := 644) (by decide +kernel), List.mem_of_getElem? (i := 980) (by decide +kernel), List.mem_of_getElem? (i := 981) (by decide +kernel)⟩
theorem lw_p52 : lw_okq (⟨"RoofOrdinancesModel", "smokedBy", "(I)I"⟩, 15) := ⟨⟨by decide +kernel, by decide +kernel⟩, List.mem_of_getElem? (i := 644) (by decide +kernel), List.mem_of_getElem? (i := 984) (by decide +kernel), List.mem_of_getElem? (i := 985) (by decide +kernel)⟩
theorem lw_p53 : lw_okq (⟨"RoofOrdinancesModel", "windsOver", "(I)I"⟩, 15) := ⟨⟨by decide +kernel, by decide +kernel⟩, List.mem_of_getElem? (i := 644) (by decide +kernel), List.mem_of_getElem? (i := 1008) (by decide +kernel), List.mem_of_getElem? (i := 1009) (by decide +kernel)⟩
def lw_privs_4 : List (MethodName × Nat) := [(⟨"RoofOrdinancesModel", "strengthOf", "(II)I"⟩, 15), (⟨"RoofOrdinancesModel", "stepsOf", "(II)I"⟩, 15), (⟨"RoofOrdinancesModel", "furtherFrom", "(II)I"⟩, 15), (⟨"RoofOrdinancesModel", "sumOf", "(I)I"⟩, 15), (⟨"RoofOrdinancesModel", "smokedBy", "(I)I"⟩, 15), (⟨"RoofOrdinancesModel", "windsOver", "(I)I"⟩, 15)]
theorem lw_r4 : ∀ q ∈ lw_privs_4, lw_okq q := List.forall_mem_cons.mpr ⟨lw_p48, List.forall_mem_cons.mpr ⟨lw_p49, List.forall_mem_cons.mpr ⟨lw_p50, List.forall_mem_cons.mpr ⟨lw_p51, List.forall_mem_cons.mpr ⟨lw_p52, List.forall_mem_cons.mpr ⟨lw_p53, fun _ h => absurd h List.not_mem_nil⟩⟩⟩⟩⟩⟩
def lw_privs : List (MethodName × Nat) := lw_privs_1 ++ (lw_privs_2 ++ (lw_privs_3 ++ (lw_privs_4)))
def lw_tbl : List Cond := k2_sels lw_privs ++ tables_1
theorem lw_privs_ok : ∀ q ∈ lw_privs, lw_okq q := by
  show ∀ q ∈ lw_privs_1 ++ (lw_privs_2 ++ (lw_privs_3 ++ (lw_privs_4))), lw_okq q
  exact List.forall_mem_append.mpr ⟨lw_r1, List.forall_mem_append.mpr ⟨lw_r2, List.forall_mem_append.mpr ⟨lw_r3, lw_r4⟩⟩⟩
/-- the streams that the claim lets the run draw from -/
abbrev lw_cs : List Choice := [Jvm.Choice.named "NaN.bits"]
theorem lw_bits : nanBits ∈ lw_cs := by first | decide | exact List.mem_cons_self | simp [lw_cs, nanBits]
end
section
def RX0 : String := "RoofOrdinances$City"
def TX0 : u_T := fun k => match k with
  | 0 => ("RoofOrdinances$City", "borne", "[I", true)
  | 1 => ("RoofOrdinances$City", "hangers", "[I", true)
  | 2 => ("RoofOrdinances$City", "soot", "[I", true)
  | 3 => ("RoofOrdinances$City", "spots", "[I", true)
  | 4 => ("RoofOrdinances$City", "weights", "[I", true)
  | 5 => ("RoofOrdinances$City", "keys", "[I", true)
  | 6 => ("RoofOrdinances$City", "places", "[I", true)
  | 7 => ("RoofOrdinances$City", "walks", "[I", true)
  | 8 => ("RoofOrdinances$City", "truces", "I", false)
  | 9 => ("RoofOrdinances$City", "chimneys", "I", false)
  | 10 => ("RoofOrdinances$City", "coops", "I", false)
  | 11 => ("RoofOrdinances$City", "windTo", "I", false)
  | 12 => ("RoofOrdinances$City", "smokeReach", "I", false)
  | 13 => ("RoofOrdinances$City", "dayNumber", "I", false)
  | 14 => ("RoofOrdinances$City", "lot", "I", false)
  | 15 => ("RoofOrdinances$City", "hung", "I", false)
  | 16 => ("RoofOrdinances$City", "taken", "I", false)
  | 17 => ("RoofOrdinances$City", "fallen", "I", false)
  | _ => ("RoofOrdinances$City", "refused", "I", false)
def tyX0 : Nat → FieldType := fun k => match k with
  | 0 => .array .int
  | 1 => .array .int
  | 2 => .array .int
  | 3 => .array .int
  | 4 => .array .int
  | 5 => .array .int
  | 6 => .array .int
  | 7 => .array .int
  | 8 => .int
  | 9 => .int
  | 10 => .int
  | 11 => .int
  | 12 => .int
  | 13 => .int
  | 14 => .int
  | 15 => .int
  | 16 => .int
  | 17 => .int
  | _ => .int
theorem nmX0 : ∀ a, a < 19 → ∀ b, b < 19 → a ≠ b → (TX0 a).2.1 ≠ (TX0 b).2.1 := by decide +kernel
theorem tyX0_ok : ∀ k, k < 19 → parseFieldDescriptor (TX0 k).2.2.1 = some (tyX0 k) := by decide +kernel
abbrev cX0_init : ByteArray := prog_2_method_1_code
def yX0_init : MethodName := ⟨RX0, "<init>", "()V"⟩
abbrev cX0_copyFrom : ByteArray := prog_2_method_2_code
def yX0_copyFrom : MethodName := ⟨RX0, "copyFrom", "(LRoofOrdinances$City;)V"⟩
abbrev cX0_letBear : ByteArray := prog_2_method_3_code
def yX0_letBear : MethodName := ⟨RX0, "letBear", "(II)V"⟩
abbrev cX0_toggleChimney : ByteArray := prog_2_method_4_code
def yX0_toggleChimney : MethodName := ⟨RX0, "toggleChimney", "(I)V"⟩
abbrev cX0_setTruce : ByteArray := prog_2_method_5_code
def yX0_setTruce : MethodName := ⟨RX0, "setTruce", "(IZ)V"⟩
abbrev cX0_hasLine : ByteArray := prog_2_method_6_code
def yX0_hasLine : MethodName := ⟨RX0, "hasLine", "(I)Z"⟩
abbrev cX0_isThere : ByteArray := prog_2_method_7_code
def yX0_isThere : MethodName := ⟨RX0, "isThere", "(I)Z"⟩
abbrev cX0_smokeBlown : ByteArray := prog_2_method_8_code
def yX0_smokeBlown : MethodName := ⟨RX0, "smokeBlown", "(I)I"⟩
abbrev cX0_chimneysSmoking : ByteArray := prog_2_method_9_code
def yX0_chimneysSmoking : MethodName := ⟨RX0, "chimneysSmoking", "(I)I"⟩
abbrev cX0_windsSmoking : ByteArray := prog_2_method_10_code
def yX0_windsSmoking : MethodName := ⟨RX0, "windsSmoking", "(I)I"⟩
abbrev cX0_isNearCoop : ByteArray := prog_2_method_11_code
def yX0_isNearCoop : MethodName := ⟨RX0, "isNearCoop", "(I)Z"⟩
abbrev cX0_reasonNotToHang : ByteArray := prog_2_method_12_code
def yX0_reasonNotToHang : MethodName := ⟨RX0, "reasonNotToHang", "(II)I"⟩
abbrev cX0_hangLine : ByteArray := prog_2_method_13_code
def yX0_hangLine : MethodName := ⟨RX0, "hangLine", "(II)I"⟩
abbrev cX0_takeLine : ByteArray := prog_2_method_14_code
def yX0_takeLine : MethodName := ⟨RX0, "takeLine", "(II)I"⟩
abbrev cX0_standsAt : ByteArray := prog_2_method_15_code
def yX0_standsAt : MethodName := ⟨RX0, "standsAt", "(II)Z"⟩
abbrev cX0_reasonNotToWalk : ByteArray := prog_2_method_16_code
def yX0_reasonNotToWalk : MethodName := ⟨RX0, "reasonNotToWalk", "(III)I"⟩
abbrev cX0_walkOver : ByteArray := prog_2_method_17_code
def yX0_walkOver : MethodName := ⟨RX0, "walkOver", "(II)I"⟩
abbrev cX0_passDay : ByteArray := prog_2_method_18_code
def yX0_passDay : MethodName := ⟨RX0, "passDay", "()V"⟩
abbrev cX0_soilLine : ByteArray := prog_2_method_19_code
def yX0_soilLine : MethodName := ⟨RX0, "soilLine", "(II)V"⟩
abbrev cX0_allLines : ByteArray := prog_2_method_20_code
def yX0_allLines : MethodName := ⟨RX0, "allLines", "()I"⟩
abbrev cX0_cleanLines : ByteArray := prog_2_method_21_code
def yX0_cleanLines : MethodName := ⟨RX0, "cleanLines", "()I"⟩
abbrev cX0_linesOf : ByteArray := prog_2_method_22_code
def yX0_linesOf : MethodName := ⟨RX0, "linesOf", "(I)I"⟩
abbrev cX0_linesSmokedBy : ByteArray := prog_2_method_23_code
def yX0_linesSmokedBy : MethodName := ⟨RX0, "linesSmokedBy", "(I)I"⟩
abbrev cX0_sumOverLines : ByteArray := prog_2_method_24_code
def yX0_sumOverLines : MethodName := ⟨RX0, "sumOverLines", "([I)I"⟩
abbrev cX0_standingGangways : ByteArray := prog_2_method_25_code
def yX0_standingGangways : MethodName := ⟨RX0, "standingGangways", "()I"⟩
abbrev cX0_ownersOn : ByteArray := prog_2_method_26_code
def yX0_ownersOn : MethodName := ⟨RX0, "ownersOn", "(I)I"⟩
abbrev cX0_walksOpenTo : ByteArray := prog_2_method_27_code
def yX0_walksOpenTo : MethodName := ⟨RX0, "walksOpenTo", "(I)I"⟩
abbrev cX0_hangingsOpenTo : ByteArray := prog_2_method_28_code
def yX0_hangingsOpenTo : MethodName := ⟨RX0, "hangingsOpenTo", "(I)I"⟩
abbrev cX0_numberOfNow : ByteArray := prog_2_method_29_code
def yX0_numberOfNow : MethodName := ⟨RX0, "numberOfNow", "(I)I"⟩
abbrev cX0_numberSoFar : ByteArray := prog_2_method_30_code
def yX0_numberSoFar : MethodName := ⟨RX0, "numberSoFar", "(I)I"⟩
def RX1 : String := "RoofOrdinances$History"
def TX1 : u_T := fun k => match k with
  | 0 => ("RoofOrdinances$History", "states", "[LRoofOrdinances$City;", true)
  | _ => ("RoofOrdinances$History", "size", "I", false)
def tyX1 : Nat → FieldType := fun k => match k with
  | 0 => .array (.object "RoofOrdinances$City")
  | _ => .int
theorem nmX1 : ∀ a, a < 2 → ∀ b, b < 2 → a ≠ b → (TX1 a).2.1 ≠ (TX1 b).2.1 := by decide +kernel
theorem tyX1_ok : ∀ k, k < 2 → parseFieldDescriptor (TX1 k).2.2.1 = some (tyX1 k) := by decide +kernel
abbrev cX1_init : ByteArray := prog_3_method_1_code
def yX1_init : MethodName := ⟨RX1, "<init>", "()V"⟩
abbrev cX1_push : ByteArray := prog_3_method_2_code
def yX1_push : MethodName := ⟨RX1, "push", "(LRoofOrdinances$City;)V"⟩
abbrev cX1_popInto : ByteArray := prog_3_method_3_code
def yX1_popInto : MethodName := ⟨RX1, "popInto", "(LRoofOrdinances$City;)V"⟩
def RX2 : String := "RoofOrdinances$OrderReader"
def TX2 : u_T := fun k => match k with
  | 0 => ("RoofOrdinances$OrderReader", "text", "LRoofOrdinances$Pad;", true)
  | 1 => ("RoofOrdinances$OrderReader", "position", "I", false)
  | 2 => ("RoofOrdinances$OrderReader", "start", "I", false)
  | 3 => ("RoofOrdinances$OrderReader", "letter", "C", false)
  | 4 => ("RoofOrdinances$OrderReader", "orderOwner", "I", false)
  | _ => ("RoofOrdinances$OrderReader", "orderNumber", "I", false)
def tyX2 : Nat → FieldType := fun k => match k with
  | 0 => .object "RoofOrdinances$Pad"
  | 1 => .int
  | 2 => .int
  | 3 => .char
  | 4 => .int
  | _ => .int
theorem nmX2 : ∀ a, a < 6 → ∀ b, b < 6 → a ≠ b → (TX2 a).2.1 ≠ (TX2 b).2.1 := by decide +kernel
theorem tyX2_ok : ∀ k, k < 6 → parseFieldDescriptor (TX2 k).2.2.1 = some (tyX2 k) := by decide +kernel
abbrev cX2_init : ByteArray := prog_4_method_1_code
def yX2_init : MethodName := ⟨RX2, "<init>", "(LRoofOrdinances$Pad;)V"⟩
abbrev cX2_rewind : ByteArray := prog_4_method_2_code
def yX2_rewind : MethodName := ⟨RX2, "rewind", "()V"⟩
abbrev cX2_firstFault : ByteArray := prog_4_method_3_code
def yX2_firstFault : MethodName := ⟨RX2, "firstFault", "()I"⟩
abbrev cX2_readNext : ByteArray := prog_4_method_4_code
def yX2_readNext : MethodName := ⟨RX2, "readNext", "()Z"⟩
abbrev cX2_readOrder : ByteArray := prog_4_method_5_code
def yX2_readOrder : MethodName := ⟨RX2, "readOrder", "()Z"⟩
abbrev cX2_readSign : ByteArray := prog_4_method_6_code
def yX2_readSign : MethodName := ⟨RX2, "readSign", "(C)Z"⟩
abbrev cX2_readOwner : ByteArray := prog_4_method_7_code
def yX2_readOwner : MethodName := ⟨RX2, "readOwner", "()Z"⟩
abbrev cX2_readNumber : ByteArray := prog_4_method_8_code
def yX2_readNumber : MethodName := ⟨RX2, "readNumber", "(Z)Z"⟩
abbrev cX2_isAllowed : ByteArray := prog_4_method_9_code
def yX2_isAllowed : MethodName := ⟨RX2, "isAllowed", "(IZ)Z"⟩
abbrev cX2_digitAt : ByteArray := prog_4_method_10_code
def yX2_digitAt : MethodName := ⟨RX2, "digitAt", "(I)I"⟩
def RX3 : String := "RoofOrdinances$Pad"
def TX3 : u_T := fun k => match k with
  | 0 => ("RoofOrdinances$Pad", "signs", "[C", true)
  | _ => ("RoofOrdinances$Pad", "length", "I", false)
def tyX3 : Nat → FieldType := fun k => match k with
  | 0 => .array .char
  | _ => .int
theorem nmX3 : ∀ a, a < 2 → ∀ b, b < 2 → a ≠ b → (TX3 a).2.1 ≠ (TX3 b).2.1 := by decide +kernel
theorem tyX3_ok : ∀ k, k < 2 → parseFieldDescriptor (TX3 k).2.2.1 = some (tyX3 k) := by decide +kernel
abbrev cX3_init : ByteArray := prog_5_method_1_code
def yX3_init : MethodName := ⟨RX3, "<init>", "()V"⟩
abbrev cX3_add : ByteArray := prog_5_method_2_code
def yX3_add : MethodName := ⟨RX3, "add", "(C)V"⟩
abbrev cX3_signAt : ByteArray := prog_5_method_3_code
def yX3_signAt : MethodName := ⟨RX3, "signAt", "(I)C"⟩
def RX4 : String := "RoofOrdinances$Plan"
def TX4 : u_T := fun k => match k with
  | _ => ("", "", "", false)
def tyX4 : Nat → FieldType := fun k => match k with
  | _ => .int
theorem nmX4 : ∀ a, a < 0 → ∀ b, b < 0 → a ≠ b → (TX4 a).2.1 ≠ (TX4 b).2.1 := by decide +kernel
theorem tyX4_ok : ∀ k, k < 0 → parseFieldDescriptor (TX4 k).2.2.1 = some (tyX4 k) := by decide +kernel
abbrev cX4_isGangway : ByteArray := prog_6_method_2_code
def yX4_isGangway : MethodName := ⟨RX4, "isGangway", "(I)Z"⟩
abbrev cX4_lesserRoof : ByteArray := prog_6_method_3_code
def yX4_lesserRoof : MethodName := ⟨RX4, "lesserRoof", "(I)I"⟩
abbrev cX4_greaterRoof : ByteArray := prog_6_method_4_code
def yX4_greaterRoof : MethodName := ⟨RX4, "greaterRoof", "(I)I"⟩
abbrev cX4_roofsOf : ByteArray := prog_6_method_5_code
def yX4_roofsOf : MethodName := ⟨RX4, "roofsOf", "(I)I"⟩
abbrev cX4_otherRoof : ByteArray := prog_6_method_6_code
def yX4_otherRoof : MethodName := ⟨RX4, "otherRoof", "(II)I"⟩
abbrev cX4_gangwaysOf : ByteArray := prog_6_method_7_code
def yX4_gangwaysOf : MethodName := ⟨RX4, "gangwaysOf", "(I)I"⟩
abbrev cX4_nextRoof : ByteArray := prog_6_method_8_code
def yX4_nextRoof : MethodName := ⟨RX4, "nextRoof", "(II)I"⟩
abbrev cX4_roofAndNext : ByteArray := prog_6_method_9_code
def yX4_roofAndNext : MethodName := ⟨RX4, "roofAndNext", "(III)I"⟩
abbrev cX4_roofAndNeighbours : ByteArray := prog_6_method_10_code
def yX4_roofAndNeighbours : MethodName := ⟨RX4, "roofAndNeighbours", "(I)I"⟩
def RX5 : String := "RoofOrdinances$Ways"
def TX5 : u_T := fun k => match k with
  | 0 => ("RoofOrdinances$Ways", "groups", "[I", true)
  | _ => ("RoofOrdinances$Ways", "strengths", "[I", true)
def tyX5 : Nat → FieldType := fun k => match k with
  | 0 => .array .int
  | _ => .array .int
theorem nmX5 : ∀ a, a < 2 → ∀ b, b < 2 → a ≠ b → (TX5 a).2.1 ≠ (TX5 b).2.1 := by decide +kernel
theorem tyX5_ok : ∀ k, k < 2 → parseFieldDescriptor (TX5 k).2.2.1 = some (tyX5 k) := by decide +kernel
abbrev cX5_init : ByteArray := prog_7_method_1_code
def yX5_init : MethodName := ⟨RX5, "<init>", "()V"⟩
abbrev cX5_strongestByJoining : ByteArray := prog_7_method_2_code
def yX5_strongestByJoining : MethodName := ⟨RX5, "strongestByJoining", "(LRoofOrdinances$City;II)I"⟩
abbrev cX5_joinOver : ByteArray := prog_7_method_3_code
def yX5_joinOver : MethodName := ⟨RX5, "joinOver", "(LRoofOrdinances$City;I)V"⟩
abbrev cX5_rename : ByteArray := prog_7_method_4_code
def yX5_rename : MethodName := ⟨RX5, "rename", "(II)V"⟩
abbrev cX5_strongestBySpreading : ByteArray := prog_7_method_5_code
def yX5_strongestBySpreading : MethodName := ⟨RX5, "strongestBySpreading", "(LRoofOrdinances$City;II)I"⟩
abbrev cX5_spread : ByteArray := prog_7_method_6_code
def yX5_spread : MethodName := ⟨RX5, "spread", "(LRoofOrdinances$City;)Z"⟩
abbrev cX5_raise : ByteArray := prog_7_method_7_code
def yX5_raise : MethodName := ⟨RX5, "raise", "(II)Z"⟩
abbrev cX5_roofsFrom : ByteArray := prog_7_method_8_code
def yX5_roofsFrom : MethodName := ⟨RX5, "roofsFrom", "(LRoofOrdinances$City;I)I"⟩
abbrev cX5_fewestWalks : ByteArray := prog_7_method_9_code
def yX5_fewestWalks : MethodName := ⟨RX5, "fewestWalks", "(LRoofOrdinances$City;II)I"⟩
abbrev cX5_oneWalkFurther : ByteArray := prog_7_method_10_code
def yX5_oneWalkFurther : MethodName := ⟨RX5, "oneWalkFurther", "(LRoofOrdinances$City;II)I"⟩
def RX6 : String := "RoofOrdinances"
def TX6 : u_T := fun k => match k with
  | 0 => ("RoofOrdinances", "city", "LRoofOrdinances$City;", true)
  | 1 => ("RoofOrdinances", "trial", "LRoofOrdinances$City;", true)
  | 2 => ("RoofOrdinances", "snapshot", "LRoofOrdinances$City;", true)
  | 3 => ("RoofOrdinances", "snapshotTaken", "Z", false)
  | 4 => ("RoofOrdinances", "history", "LRoofOrdinances$History;", true)
  | 5 => ("RoofOrdinances", "ways", "LRoofOrdinances$Ways;", true)
  | 6 => ("RoofOrdinances", "pad", "LRoofOrdinances$Pad;", true)
  | 7 => ("RoofOrdinances", "reader", "LRoofOrdinances$OrderReader;", true)
  | 8 => ("RoofOrdinances", "stopped", "Z", false)
  | 9 => ("RoofOrdinances", "stopCause", "I", false)
  | 10 => ("RoofOrdinances", "stopNumber", "I", false)
  | _ => ("RoofOrdinances", "stopPosition", "I", false)
def tyX6 : Nat → FieldType := fun k => match k with
  | 0 => .object "RoofOrdinances$City"
  | 1 => .object "RoofOrdinances$City"
  | 2 => .object "RoofOrdinances$City"
  | 3 => .boolean
  | 4 => .object "RoofOrdinances$History"
  | 5 => .object "RoofOrdinances$Ways"
  | 6 => .object "RoofOrdinances$Pad"
  | 7 => .object "RoofOrdinances$OrderReader"
  | 8 => .boolean
  | 9 => .int
  | 10 => .int
  | _ => .int
theorem nmX6 : ∀ a, a < 12 → ∀ b, b < 12 → a ≠ b → (TX6 a).2.1 ≠ (TX6 b).2.1 := by decide +kernel
theorem tyX6_ok : ∀ k, k < 12 → parseFieldDescriptor (TX6 k).2.2.1 = some (tyX6 k) := by decide +kernel
abbrev cX6_init : ByteArray := prog_1_method_1_code
def yX6_init : MethodName := ⟨RX6, "<init>", "()V"⟩
abbrev cX6_bears : ByteArray := prog_1_method_2_code
def yX6_bears : MethodName := ⟨RX6, "bears", "(II)I"⟩
abbrev cX6_wind : ByteArray := prog_1_method_3_code
def yX6_wind : MethodName := ⟨RX6, "wind", "(I)I"⟩
abbrev cX6_chimney : ByteArray := prog_1_method_4_code
def yX6_chimney : MethodName := ⟨RX6, "chimney", "(I)I"⟩
abbrev cX6_coop : ByteArray := prog_1_method_5_code
def yX6_coop : MethodName := ⟨RX6, "coop", "(I)I"⟩
abbrev cX6_owner : ByteArray := prog_1_method_6_code
def yX6_owner : MethodName := ⟨RX6, "owner", "(IIIZ)I"⟩
abbrev cX6_reach : ByteArray := prog_1_method_7_code
def yX6_reach : MethodName := ⟨RX6, "reach", "(I)I"⟩
abbrev cX6_hang : ByteArray := prog_1_method_8_code
def yX6_hang : MethodName := ⟨RX6, "hang", "(II)I"⟩
abbrev cX6_take : ByteArray := prog_1_method_9_code
def yX6_take : MethodName := ⟨RX6, "take", "(II)I"⟩
abbrev cX6_walk : ByteArray := prog_1_method_10_code
def yX6_walk : MethodName := ⟨RX6, "walk", "(II)I"⟩
abbrev cX6_day : ByteArray := prog_1_method_11_code
def yX6_day : MethodName := ⟨RX6, "day", "()I"⟩
abbrev cX6_append : ByteArray := prog_1_method_12_code
def yX6_append : MethodName := ⟨RX6, "append", "(I)I"⟩
abbrev cX6_clear : ByteArray := prog_1_method_13_code
def yX6_clear : MethodName := ⟨RX6, "clear", "()I"⟩
abbrev cX6_fault : ByteArray := prog_1_method_14_code
def yX6_fault : MethodName := ⟨RX6, "fault", "()I"⟩
abbrev cX6_run : ByteArray := prog_1_method_15_code
def yX6_run : MethodName := ⟨RX6, "run", "()I"⟩
abbrev cX6_why : ByteArray := prog_1_method_16_code
def yX6_why : MethodName := ⟨RX6, "why", "(I)I"⟩
abbrev cX6_roof : ByteArray := prog_1_method_17_code
def yX6_roof : MethodName := ⟨RX6, "roof", "(II)I"⟩
abbrev cX6_gangway : ByteArray := prog_1_method_18_code
def yX6_gangway : MethodName := ⟨RX6, "gangway", "(II)I"⟩
abbrev cX6_ownerOf : ByteArray := prog_1_method_19_code
def yX6_ownerOf : MethodName := ⟨RX6, "ownerOf", "(II)I"⟩
abbrev cX6_whyNotHang : ByteArray := prog_1_method_20_code
def yX6_whyNotHang : MethodName := ⟨RX6, "whyNotHang", "(II)I"⟩
abbrev cX6_strongest : ByteArray := prog_1_method_21_code
def yX6_strongest : MethodName := ⟨RX6, "strongest", "(III)I"⟩
abbrev cX6_steps : ByteArray := prog_1_method_22_code
def yX6_steps : MethodName := ⟨RX6, "steps", "(II)I"⟩
abbrev cX6_count : ByteArray := prog_1_method_23_code
def yX6_count : MethodName := ⟨RX6, "count", "(I)I"⟩
abbrev cX6_cleanness : ByteArray := prog_1_method_24_code
def yX6_cleanness : MethodName := ⟨RX6, "cleanness", "()D"⟩
abbrev cX6_ifWind : ByteArray := prog_1_method_25_code
def yX6_ifWind : MethodName := ⟨RX6, "ifWind", "(I)I"⟩
abbrev cX6_bestWind : ByteArray := prog_1_method_26_code
def yX6_bestWind : MethodName := ⟨RX6, "bestWind", "()I"⟩
abbrev cX6_ifDays : ByteArray := prog_1_method_27_code
def yX6_ifDays : MethodName := ⟨RX6, "ifDays", "(II)I"⟩
abbrev cX6_bestPlace : ByteArray := prog_1_method_28_code
def yX6_bestPlace : MethodName := ⟨RX6, "bestPlace", "(I)I"⟩
abbrev cX6_undo : ByteArray := prog_1_method_29_code
def yX6_undo : MethodName := ⟨RX6, "undo", "()I"⟩
abbrev cX6_save : ByteArray := prog_1_method_30_code
def yX6_save : MethodName := ⟨RX6, "save", "()I"⟩
abbrev cX6_restore : ByteArray := prog_1_method_31_code
def yX6_restore : MethodName := ⟨RX6, "restore", "()I"⟩
abbrev cX6_keepStop : ByteArray := prog_1_method_32_code
def yX6_keepStop : MethodName := ⟨RX6, "keepStop", "(II)V"⟩
abbrev cX6_carryOutOrder : ByteArray := prog_1_method_33_code
def yX6_carryOutOrder : MethodName := ⟨RX6, "carryOutOrder", "()I"⟩
abbrev cX6_causeIn : ByteArray := prog_1_method_34_code
def yX6_causeIn : MethodName := ⟨RX6, "causeIn", "(I)I"⟩
abbrev cX6_isWithin : ByteArray := prog_1_method_35_code
def yX6_isWithin : MethodName := ⟨RX6, "isWithin", "(III)Z"⟩
abbrev cX6_isRoof : ByteArray := prog_1_method_36_code
def yX6_isRoof : MethodName := ⟨RX6, "isRoof", "(I)Z"⟩
abbrev cX6_isOwner : ByteArray := prog_1_method_37_code
def yX6_isOwner : MethodName := ⟨RX6, "isOwner", "(I)Z"⟩
abbrev cX6_bitOf : ByteArray := prog_1_method_38_code
def yX6_bitOf : MethodName := ⟨RX6, "bitOf", "(II)I"⟩
abbrev cX6_isIn : ByteArray := prog_1_method_39_code
def yX6_isIn : MethodName := ⟨RX6, "isIn", "(II)Z"⟩
def RX7 : String := "RoofOrdinancesModel"
def TX7 : u_T := fun k => match k with
  | 0 => ("RoofOrdinancesModel", "s", "[I", true)
  | 1 => ("RoofOrdinancesModel", "aside", "[I", true)
  | 2 => ("RoofOrdinancesModel", "past", "[I", true)
  | 3 => ("RoofOrdinancesModel", "known", "I", false)
  | 4 => ("RoofOrdinancesModel", "kept", "[I", true)
  | 5 => ("RoofOrdinancesModel", "isKept", "Z", false)
  | 6 => ("RoofOrdinancesModel", "pad", "[I", true)
  | 7 => ("RoofOrdinancesModel", "length", "I", false)
  | 8 => ("RoofOrdinancesModel", "spot", "I", false)
  | 9 => ("RoofOrdinancesModel", "isForm", "Z", false)
  | 10 => ("RoofOrdinancesModel", "letter", "I", false)
  | 11 => ("RoofOrdinancesModel", "first", "I", false)
  | 12 => ("RoofOrdinancesModel", "second", "I", false)
  | 13 => ("RoofOrdinancesModel", "isStopped", "Z", false)
  | _ => ("RoofOrdinancesModel", "stop", "[I", true)
def tyX7 : Nat → FieldType := fun k => match k with
  | 0 => .array .int
  | 1 => .array .int
  | 2 => .array .int
  | 3 => .int
  | 4 => .array .int
  | 5 => .boolean
  | 6 => .array .int
  | 7 => .int
  | 8 => .int
  | 9 => .boolean
  | 10 => .int
  | 11 => .int
  | 12 => .int
  | 13 => .boolean
  | _ => .array .int
theorem nmX7 : ∀ a, a < 15 → ∀ b, b < 15 → a ≠ b → (TX7 a).2.1 ≠ (TX7 b).2.1 := by decide +kernel
theorem tyX7_ok : ∀ k, k < 15 → parseFieldDescriptor (TX7 k).2.2.1 = some (tyX7 k) := by decide +kernel
abbrev cX7_init : ByteArray := prog_9_method_1_code
def yX7_init : MethodName := ⟨RX7, "<init>", "()V"⟩
abbrev cX7_in : ByteArray := prog_9_method_3_code
def yX7_in : MethodName := ⟨RX7, "in", "(III)Z"⟩
abbrev cX7_copies : ByteArray := prog_9_method_4_code
def yX7_copies : MethodName := ⟨RX7, "copies", "([II[II)V"⟩
abbrev cX7_records : ByteArray := prog_9_method_5_code
def yX7_records : MethodName := ⟨RX7, "records", "()V"⟩
abbrev cX7_isRoof : ByteArray := prog_9_method_6_code
def yX7_isRoof : MethodName := ⟨RX7, "isRoof", "(I)Z"⟩
abbrev cX7_isOwner : ByteArray := prog_9_method_7_code
def yX7_isOwner : MethodName := ⟨RX7, "isOwner", "(I)Z"⟩
abbrev cX7_isGangway : ByteArray := prog_9_method_8_code
def yX7_isGangway : MethodName := ⟨RX7, "isGangway", "(I)Z"⟩
abbrev cX7_lesserOf : ByteArray := prog_9_method_9_code
def yX7_lesserOf : MethodName := ⟨RX7, "lesserOf", "(I)I"⟩
abbrev cX7_greaterOf : ByteArray := prog_9_method_10_code
def yX7_greaterOf : MethodName := ⟨RX7, "greaterOf", "(I)I"⟩
abbrev cX7_isOfRoof : ByteArray := prog_9_method_11_code
def yX7_isOfRoof : MethodName := ⟨RX7, "isOfRoof", "(II)Z"⟩
abbrev cX7_otherOf : ByteArray := prog_9_method_12_code
def yX7_otherOf : MethodName := ⟨RX7, "otherOf", "(II)I"⟩
abbrev cX7_isIn : ByteArray := prog_9_method_13_code
def yX7_isIn : MethodName := ⟨RX7, "isIn", "(II)Z"⟩
abbrev cX7_ones : ByteArray := prog_9_method_14_code
def yX7_ones : MethodName := ⟨RX7, "ones", "(I)I"⟩
abbrev cX7_of : ByteArray := prog_9_method_15_code
def yX7_of : MethodName := ⟨RX7, "of", "(II)I"⟩
abbrev cX7_lays : ByteArray := prog_9_method_16_code
def yX7_lays : MethodName := ⟨RX7, "lays", "(III)V"⟩
abbrev cX7_ofOwner : ByteArray := prog_9_method_17_code
def yX7_ofOwner : MethodName := ⟨RX7, "ofOwner", "(II)I"⟩
abbrev cX7_hasLine : ByteArray := prog_9_method_18_code
def yX7_hasLine : MethodName := ⟨RX7, "hasLine", "(I)Z"⟩
abbrev cX7_isClean : ByteArray := prog_9_method_19_code
def yX7_isClean : MethodName := ⟨RX7, "isClean", "(I)Z"⟩
abbrev cX7_bothOf : ByteArray := prog_9_method_20_code
def yX7_bothOf : MethodName := ⟨RX7, "bothOf", "(I)I"⟩
abbrev cX7_nextTo : ByteArray := prog_9_method_21_code
def yX7_nextTo : MethodName := ⟨RX7, "nextTo", "(II)I"⟩
abbrev cX7_smokeOf : ByteArray := prog_9_method_22_code
def yX7_smokeOf : MethodName := ⟨RX7, "smokeOf", "(II)I"⟩
abbrev cX7_smokeBy : ByteArray := prog_9_method_23_code
def yX7_smokeBy : MethodName := ⟨RX7, "smokeBy", "(I)I"⟩
abbrev cX7_smoke : ByteArray := prog_9_method_24_code
def yX7_smoke : MethodName := ⟨RX7, "smoke", "()I"⟩
abbrev cX7_nearCoops : ByteArray := prog_9_method_25_code
def yX7_nearCoops : MethodName := ⟨RX7, "nearCoops", "()I"⟩
abbrev cX7_reasonToHang : ByteArray := prog_9_method_26_code
def yX7_reasonToHang : MethodName := ⟨RX7, "reasonToHang", "(II)I"⟩
abbrev cX7_reasonToWalk : ByteArray := prog_9_method_27_code
def yX7_reasonToWalk : MethodName := ⟨RX7, "reasonToWalk", "(III)I"⟩
abbrev cX7_refuses : ByteArray := prog_9_method_28_code
def yX7_refuses : MethodName := ⟨RX7, "refuses", "(I)I"⟩
abbrev cX7_linesNow : ByteArray := prog_9_method_29_code
def yX7_linesNow : MethodName := ⟨RX7, "linesNow", "()I"⟩
abbrev cX7_cleanNow : ByteArray := prog_9_method_30_code
def yX7_cleanNow : MethodName := ⟨RX7, "cleanNow", "()I"⟩
abbrev cX7_removes : ByteArray := prog_9_method_31_code
def yX7_removes : MethodName := ⟨RX7, "removes", "(I)V"⟩
abbrev cX7_goHang : ByteArray := prog_9_method_32_code
def yX7_goHang : MethodName := ⟨RX7, "goHang", "(II)I"⟩
abbrev cX7_goTake : ByteArray := prog_9_method_33_code
def yX7_goTake : MethodName := ⟨RX7, "goTake", "(II)I"⟩
abbrev cX7_goWalk : ByteArray := prog_9_method_34_code
def yX7_goWalk : MethodName := ⟨RX7, "goWalk", "(II)I"⟩
abbrev cX7_goChimney : ByteArray := prog_9_method_35_code
def yX7_goChimney : MethodName := ⟨RX7, "goChimney", "(I)I"⟩
abbrev cX7_goDay : ByteArray := prog_9_method_36_code
def yX7_goDay : MethodName := ⟨RX7, "goDay", "()I"⟩
abbrev cX7_bears : ByteArray := prog_9_method_37_code
def yX7_bears : MethodName := ⟨RX7, "bears", "(II)I"⟩
abbrev cX7_wind : ByteArray := prog_9_method_38_code
def yX7_wind : MethodName := ⟨RX7, "wind", "(I)I"⟩
abbrev cX7_chimney : ByteArray := prog_9_method_39_code
def yX7_chimney : MethodName := ⟨RX7, "chimney", "(I)I"⟩
abbrev cX7_coop : ByteArray := prog_9_method_40_code
def yX7_coop : MethodName := ⟨RX7, "coop", "(I)I"⟩
abbrev cX7_owner : ByteArray := prog_9_method_41_code
def yX7_owner : MethodName := ⟨RX7, "owner", "(IIIZ)I"⟩
abbrev cX7_reach : ByteArray := prog_9_method_42_code
def yX7_reach : MethodName := ⟨RX7, "reach", "(I)I"⟩
abbrev cX7_hang : ByteArray := prog_9_method_43_code
def yX7_hang : MethodName := ⟨RX7, "hang", "(II)I"⟩
abbrev cX7_take : ByteArray := prog_9_method_44_code
def yX7_take : MethodName := ⟨RX7, "take", "(II)I"⟩
abbrev cX7_walk : ByteArray := prog_9_method_45_code
def yX7_walk : MethodName := ⟨RX7, "walk", "(II)I"⟩
abbrev cX7_day : ByteArray := prog_9_method_46_code
def yX7_day : MethodName := ⟨RX7, "day", "()I"⟩
abbrev cX7_append : ByteArray := prog_9_method_47_code
def yX7_append : MethodName := ⟨RX7, "append", "(I)I"⟩
abbrev cX7_clear : ByteArray := prog_9_method_48_code
def yX7_clear : MethodName := ⟨RX7, "clear", "()I"⟩
abbrev cX7_here : ByteArray := prog_9_method_49_code
def yX7_here : MethodName := ⟨RX7, "here", "()I"⟩
abbrev cX7_takes : ByteArray := prog_9_method_50_code
def yX7_takes : MethodName := ⟨RX7, "takes", "(Z)V"⟩
abbrev cX7_isNumber : ByteArray := prog_9_method_51_code
def yX7_isNumber : MethodName := ⟨RX7, "isNumber", "(ZI)Z"⟩
abbrev cX7_takesNumber : ByteArray := prog_9_method_52_code
def yX7_takesNumber : MethodName := ⟨RX7, "takesNumber", "(Z)I"⟩
abbrev cX7_takesOrder : ByteArray := prog_9_method_53_code
def yX7_takesOrder : MethodName := ⟨RX7, "takesOrder", "()V"⟩
abbrev cX7_isText : ByteArray := prog_9_method_54_code
def yX7_isText : MethodName := ⟨RX7, "isText", "()Z"⟩
abbrev cX7_fault : ByteArray := prog_9_method_55_code
def yX7_fault : MethodName := ⟨RX7, "fault", "()I"⟩
abbrev cX7_doesOrder : ByteArray := prog_9_method_56_code
def yX7_doesOrder : MethodName := ⟨RX7, "doesOrder", "()I"⟩
abbrev cX7_run : ByteArray := prog_9_method_57_code
def yX7_run : MethodName := ⟨RX7, "run", "()I"⟩
abbrev cX7_why : ByteArray := prog_9_method_58_code
def yX7_why : MethodName := ⟨RX7, "why", "(I)I"⟩
abbrev cX7_chimneysOver : ByteArray := prog_9_method_59_code
def yX7_chimneysOver : MethodName := ⟨RX7, "chimneysOver", "(I)I"⟩
abbrev cX7_ownersAt : ByteArray := prog_9_method_60_code
def yX7_ownersAt : MethodName := ⟨RX7, "ownersAt", "(I)I"⟩
abbrev cX7_strongAt : ByteArray := prog_9_method_61_code
def yX7_strongAt : MethodName := ⟨RX7, "strongAt", "(I)I"⟩
abbrev cX7_linesAt : ByteArray := prog_9_method_62_code
def yX7_linesAt : MethodName := ⟨RX7, "linesAt", "(I)I"⟩
abbrev cX7_comeTo : ByteArray := prog_9_method_63_code
def yX7_comeTo : MethodName := ⟨RX7, "comeTo", "(II)I"⟩
abbrev cX7_roof : ByteArray := prog_9_method_64_code
def yX7_roof : MethodName := ⟨RX7, "roof", "(II)I"⟩
abbrev cX7_gangway : ByteArray := prog_9_method_65_code
def yX7_gangway : MethodName := ⟨RX7, "gangway", "(II)I"⟩
abbrev cX7_linesOf : ByteArray := prog_9_method_66_code
def yX7_linesOf : MethodName := ⟨RX7, "linesOf", "(IZ)I"⟩
abbrev cX7_walksNow : ByteArray := prog_9_method_67_code
def yX7_walksNow : MethodName := ⟨RX7, "walksNow", "(I)I"⟩
abbrev cX7_hangsNow : ByteArray := prog_9_method_68_code
def yX7_hangsNow : MethodName := ⟨RX7, "hangsNow", "(I)I"⟩
abbrev cX7_ownerOf : ByteArray := prog_9_method_69_code
def yX7_ownerOf : MethodName := ⟨RX7, "ownerOf", "(II)I"⟩
abbrev cX7_whyNotHang : ByteArray := prog_9_method_70_code
def yX7_whyNotHang : MethodName := ⟨RX7, "whyNotHang", "(II)I"⟩
abbrev cX7_strengthOf : ByteArray := prog_9_method_71_code
def yX7_strengthOf : MethodName := ⟨RX7, "strengthOf", "(II)I"⟩
abbrev cX7_strongest : ByteArray := prog_9_method_72_code
def yX7_strongest : MethodName := ⟨RX7, "strongest", "(III)I"⟩
abbrev cX7_furtherFrom : ByteArray := prog_9_method_73_code
def yX7_furtherFrom : MethodName := ⟨RX7, "furtherFrom", "(II)I"⟩
abbrev cX7_stepsOf : ByteArray := prog_9_method_74_code
def yX7_stepsOf : MethodName := ⟨RX7, "stepsOf", "(II)I"⟩
abbrev cX7_steps : ByteArray := prog_9_method_75_code
def yX7_steps : MethodName := ⟨RX7, "steps", "(II)I"⟩
abbrev cX7_sumOf : ByteArray := prog_9_method_76_code
def yX7_sumOf : MethodName := ⟨RX7, "sumOf", "(I)I"⟩
abbrev cX7_smokedBy : ByteArray := prog_9_method_77_code
def yX7_smokedBy : MethodName := ⟨RX7, "smokedBy", "(I)I"⟩
abbrev cX7_count : ByteArray := prog_9_method_78_code
def yX7_count : MethodName := ⟨RX7, "count", "(I)I"⟩
abbrev cX7_cleanness : ByteArray := prog_9_method_79_code
def yX7_cleanness : MethodName := ⟨RX7, "cleanness", "()D"⟩
abbrev cX7_ifWind : ByteArray := prog_9_method_80_code
def yX7_ifWind : MethodName := ⟨RX7, "ifWind", "(I)I"⟩
abbrev cX7_bestWind : ByteArray := prog_9_method_81_code
def yX7_bestWind : MethodName := ⟨RX7, "bestWind", "()I"⟩
abbrev cX7_ifDays : ByteArray := prog_9_method_82_code
def yX7_ifDays : MethodName := ⟨RX7, "ifDays", "(II)I"⟩
abbrev cX7_windsOver : ByteArray := prog_9_method_83_code
def yX7_windsOver : MethodName := ⟨RX7, "windsOver", "(I)I"⟩
abbrev cX7_bestPlace : ByteArray := prog_9_method_84_code
def yX7_bestPlace : MethodName := ⟨RX7, "bestPlace", "(I)I"⟩
abbrev cX7_undo : ByteArray := prog_9_method_85_code
def yX7_undo : MethodName := ⟨RX7, "undo", "()I"⟩
abbrev cX7_save : ByteArray := prog_9_method_86_code
def yX7_save : MethodName := ⟨RX7, "save", "()I"⟩
abbrev cX7_restore : ByteArray := prog_9_method_87_code
def yX7_restore : MethodName := ⟨RX7, "restore", "()I"⟩
def RJ6 : String := "java/lang/Integer"
def TJ6 : u_T := fun k => match k with
  | _ => ("", "", "", false)
abbrev cJ6_bitCount_0f7a4 : ByteArray := prog_10_method_49_code
def yJ6_bitCount_0f7a4 : MethodName := ⟨RJ6, "bitCount", "(I)I"⟩
def RJ9 : String := "java/lang/Math"
def TJ9 : u_T := fun k => match k with
  | _ => ("", "", "", false)
abbrev cJ9_max_7cf53 : ByteArray := prog_11_method_65_code
def yJ9_max_7cf53 : MethodName := ⟨RJ9, "max", "(II)I"⟩
abbrev cJ9_min_7cf53 : ByteArray := prog_11_method_69_code
def yJ9_min_7cf53 : MethodName := ⟨RJ9, "min", "(II)I"⟩
def RJ10 : String := "java/lang/System"
def TJ10 : u_T := fun k => match k with
  | _ => ("", "", "", false)
def RJ7 : String := "java/util/Arrays"
def TJ7 : u_T := fun k => match k with
  | _ => ("", "", "", false)
abbrev cJ7_fill_53178 : ByteArray := prog_13_method_103_code
def yJ7_fill_53178 : MethodName := ⟨RJ7, "fill", "([II)V"⟩
def RL : String := "RoofOrdinancesLaw"
abbrev cL_law : ByteArray := code
def yL_law : MethodName := ⟨RL, "law", "([I)Z"⟩
abbrev vwCl : List vw_C := [(RX0, TX0, 19), (RX1, TX1, 2), (RX2, TX2, 6), (RX3, TX3, 2), (RX5, TX5, 2), (RX6, TX6, 12), (RX7, TX7, 15)]
end
section
/-- the tables' words that stay: every method's words are these, behind its own code -/
def TB : List Cond := lw_tbl.filter goodWord
theorem TB_of {w : Cond} (h : w ∈ lw_tbl) (hg : goodWord w = true) : w ∈ TB := List.mem_filter.mpr ⟨h, hg⟩
theorem TB_good {w : Cond} (h : w ∈ TB) : (w.onTables && w.keeps) = true ∨ ∃ ty, w = .arrayClass ty := good_of_word (List.mem_filter.mp h).2
theorem tb_1 {w : Cond} (h : w ∈ tables_1_1) : w ∈ lw_tbl := List.mem_append_right _ (List.mem_append_left _ h)
theorem tb_2 {w : Cond} (h : w ∈ tables_1_2) : w ∈ lw_tbl := List.mem_append_right _ (List.mem_append_right _ (List.mem_append_left _ h))
theorem tb_3 {w : Cond} (h : w ∈ tables_1_3) : w ∈ lw_tbl := List.mem_append_right _ (List.mem_append_right _ (List.mem_append_right _ (List.mem_append_left _ h)))
theorem tb_4 {w : Cond} (h : w ∈ tables_1_4) : w ∈ lw_tbl := List.mem_append_right _ (List.mem_append_right _ (List.mem_append_right _ (List.mem_append_right _ (List.mem_append_left _ h))))
theorem tb_5 {w : Cond} (h : w ∈ tables_1_5) : w ∈ lw_tbl := List.mem_append_right _ (List.mem_append_right _ (List.mem_append_right _ (List.mem_append_right _ (List.mem_append_right _ (h)))))
theorem tb_0 {w : Cond} (h : w ∈ k2_sels lw_privs) : w ∈ lw_tbl := List.mem_append_left _ h
theorem win_RL : Cond.initialized RL ∈ TB := TB_of (tb_1 (List.mem_of_getElem? (i := 0) rfl)) rfl
theorem win_RX6 : Cond.initialized RX6 ∈ TB := TB_of (tb_1 (List.mem_of_getElem? (i := 1) rfl)) rfl
theorem win_RX0 : Cond.initialized RX0 ∈ TB := TB_of (tb_1 (List.mem_of_getElem? (i := 2) rfl)) rfl
theorem win_RX4 : Cond.initialized RX4 ∈ TB := TB_of (tb_1 (List.mem_of_getElem? (i := 3) rfl)) rfl
theorem win_RJ7 : Cond.initialized RJ7 ∈ TB := TB_of (tb_1 (List.mem_of_getElem? (i := 4) rfl)) rfl
theorem win_RX1 : Cond.initialized RX1 ∈ TB := TB_of (tb_1 (List.mem_of_getElem? (i := 5) rfl)) rfl
theorem win_RX5 : Cond.initialized RX5 ∈ TB := TB_of (tb_1 (List.mem_of_getElem? (i := 6) rfl)) rfl
theorem win_RX3 : Cond.initialized RX3 ∈ TB := TB_of (tb_1 (List.mem_of_getElem? (i := 7) rfl)) rfl
theorem win_RX2 : Cond.initialized RX2 ∈ TB := TB_of (tb_1 (List.mem_of_getElem? (i := 8) rfl)) rfl
theorem win_RX7 : Cond.initialized RX7 ∈ TB := TB_of (tb_1 (List.mem_of_getElem? (i := 9) rfl)) rfl
theorem win_RJ10 : Cond.initialized RJ10 ∈ TB := TB_of (tb_1 (List.mem_of_getElem? (i := 10) rfl)) rfl
theorem win_RJ9 : Cond.initialized RJ9 ∈ TB := TB_of (tb_1 (List.mem_of_getElem? (i := 11) rfl)) rfl
theorem win_RJ6 : Cond.initialized RJ6 ∈ TB := TB_of (tb_1 (List.mem_of_getElem? (i := 12) rfl)) rfl
theorem wcl_RL_7 : Cond.classLink RL 7 RX6 ∈ TB := TB_of (tb_1 (List.mem_of_getElem? (i := 13) rfl)) rfl
theorem wis_RX6 : Cond.instantiable RX6 12 ∈ TB := TB_of (tb_1 (List.mem_of_getElem? (i := 14) rfl)) rfl
theorem wml_RL_9 : Cond.methodLink RL 9 yX6_init ∈ TB := TB_of (tb_1 (List.mem_of_getElem? (i := 15) rfl)) rfl
theorem wim_X6_init : Cond.instanceMethod yX6_init ∈ TB := TB_of (tb_1 (List.mem_of_getElem? (i := 16) rfl)) rfl
theorem wcd_X6_init : Cond.code yX6_init cX6_init 1 none ∈ TB := TB_of (tb_1 (List.mem_of_getElem? (i := 17) rfl)) rfl
theorem wml_RX6_1 : Cond.methodLink RX6 1 objectInit ∈ TB := TB_of (tb_1 (List.mem_of_getElem? (i := 18) rfl)) rfl
theorem wim_obj : Cond.instanceMethod objectInit ∈ TB := TB_of (tb_1 (List.mem_of_getElem? (i := 19) rfl)) rfl
theorem wcd_obj : Cond.code objectInit ⟨#[0xb1]⟩ 1 none ∈ TB := TB_of (tb_1 (List.mem_of_getElem? (i := 20) rfl)) rfl
theorem wcl_RX6_7 : Cond.classLink RX6 7 RX0 ∈ TB := TB_of (tb_1 (List.mem_of_getElem? (i := 21) rfl)) rfl
theorem wis_RX0 : Cond.instantiable RX0 19 ∈ TB := TB_of (tb_1 (List.mem_of_getElem? (i := 22) rfl)) rfl
theorem wml_RX6_9 : Cond.methodLink RX6 9 yX0_init ∈ TB := TB_of (tb_1 (List.mem_of_getElem? (i := 23) rfl)) rfl
theorem wim_X0_init : Cond.instanceMethod yX0_init ∈ TB := TB_of (tb_1 (List.mem_of_getElem? (i := 24) rfl)) rfl
theorem wcd_X0_init : Cond.code yX0_init cX0_init 2 none ∈ TB := TB_of (tb_1 (List.mem_of_getElem? (i := 25) rfl)) rfl
theorem wml_RX0_3 : Cond.methodLink RX0 3 objectInit ∈ TB := TB_of (tb_1 (List.mem_of_getElem? (i := 26) rfl)) rfl
theorem wml_RX0_46 : Cond.methodLink RX0 46 yX4_isGangway ∈ TB := TB_of (tb_1 (List.mem_of_getElem? (i := 27) rfl)) rfl
theorem wst_X4_isGangway : Cond.static yX4_isGangway ∈ TB := TB_of (tb_1 (List.mem_of_getElem? (i := 28) rfl)) rfl
theorem wcd_X4_isGangway : Cond.code yX4_isGangway cX4_isGangway 1 (some .boolean) ∈ TB := TB_of (tb_1 (List.mem_of_getElem? (i := 29) rfl)) rfl
theorem wst_X6_isWithin : Cond.static yX6_isWithin ∈ TB := TB_of (tb_1 (List.mem_of_getElem? (i := 31) rfl)) rfl
theorem wcd_X6_isWithin : Cond.code yX6_isWithin cX6_isWithin 3 (some .boolean) ∈ TB := TB_of (tb_1 (List.mem_of_getElem? (i := 32) rfl)) rfl
theorem wml_RX0_52 : Cond.methodLink RX0 52 yJ7_fill_53178 ∈ TB := TB_of (tb_1 (List.mem_of_getElem? (i := 33) rfl)) rfl
theorem wst_J7_fill_53178 : Cond.static yJ7_fill_53178 ∈ TB := TB_of (tb_1 (List.mem_of_getElem? (i := 34) rfl)) rfl
theorem wcd_J7_fill_53178 : Cond.code yJ7_fill_53178 cJ7_fill_53178 4 none ∈ TB := TB_of (tb_1 (List.mem_of_getElem? (i := 35) rfl)) rfl
theorem wco_RX0_58 : Cond.constant RX0 58 65535 ∈ TB := TB_of (tb_1 (List.mem_of_getElem? (i := 36) rfl)) rfl
theorem wfl_RX0_9 : Cond.fieldLink RX0 9 "RoofOrdinances$City" "borne" "[I" ∈ TB := TB_of (tb_1 (List.mem_of_getElem? (i := 37) rfl)) rfl
theorem wfl_RX6_66 : Cond.fieldLink RX6 66 "RoofOrdinances$City" "borne" "[I" ∈ TB := TB_of (tb_1 (List.mem_of_getElem? (i := 38) rfl)) rfl
theorem wfl_RX5_28 : Cond.fieldLink RX5 28 "RoofOrdinances$City" "borne" "[I" ∈ TB := TB_of (tb_1 (List.mem_of_getElem? (i := 39) rfl)) rfl
theorem wfl_RX0_15 : Cond.fieldLink RX0 15 "RoofOrdinances$City" "hangers" "[I" ∈ TB := TB_of (tb_1 (List.mem_of_getElem? (i := 40) rfl)) rfl
theorem wfl_RX6_205 : Cond.fieldLink RX6 205 "RoofOrdinances$City" "hangers" "[I" ∈ TB := TB_of (tb_1 (List.mem_of_getElem? (i := 41) rfl)) rfl
theorem wfl_RX0_18 : Cond.fieldLink RX0 18 "RoofOrdinances$City" "soot" "[I" ∈ TB := TB_of (tb_1 (List.mem_of_getElem? (i := 42) rfl)) rfl
theorem wfl_RX6_208 : Cond.fieldLink RX6 208 "RoofOrdinances$City" "soot" "[I" ∈ TB := TB_of (tb_1 (List.mem_of_getElem? (i := 43) rfl)) rfl
theorem wfl_RX0_21 : Cond.fieldLink RX0 21 "RoofOrdinances$City" "spots" "[I" ∈ TB := TB_of (tb_1 (List.mem_of_getElem? (i := 44) rfl)) rfl
theorem wfl_RX6_211 : Cond.fieldLink RX6 211 "RoofOrdinances$City" "spots" "[I" ∈ TB := TB_of (tb_1 (List.mem_of_getElem? (i := 45) rfl)) rfl
theorem wfl_RX0_24 : Cond.fieldLink RX0 24 "RoofOrdinances$City" "weights" "[I" ∈ TB := TB_of (tb_1 (List.mem_of_getElem? (i := 46) rfl)) rfl
theorem wfl_RX6_101 : Cond.fieldLink RX6 101 "RoofOrdinances$City" "weights" "[I" ∈ TB := TB_of (tb_1 (List.mem_of_getElem? (i := 47) rfl)) rfl
theorem wfl_RX0_27 : Cond.fieldLink RX0 27 "RoofOrdinances$City" "keys" "[I" ∈ TB := TB_of (tb_1 (List.mem_of_getElem? (i := 48) rfl)) rfl
theorem wfl_RX6_104 : Cond.fieldLink RX6 104 "RoofOrdinances$City" "keys" "[I" ∈ TB := TB_of (tb_1 (List.mem_of_getElem? (i := 49) rfl)) rfl
theorem wfl_RX0_30 : Cond.fieldLink RX0 30 "RoofOrdinances$City" "places" "[I" ∈ TB := TB_of (tb_1 (List.mem_of_getElem? (i := 50) rfl)) rfl
theorem wfl_RX5_70 : Cond.fieldLink RX5 70 "RoofOrdinances$City" "places" "[I" ∈ TB := TB_of (tb_1 (List.mem_of_getElem? (i := 51) rfl)) rfl
theorem wfl_RX6_220 : Cond.fieldLink RX6 220 "RoofOrdinances$City" "places" "[I" ∈ TB := TB_of (tb_1 (List.mem_of_getElem? (i := 52) rfl)) rfl
theorem wfl_RX0_33 : Cond.fieldLink RX0 33 "RoofOrdinances$City" "walks" "[I" ∈ TB := TB_of (tb_1 (List.mem_of_getElem? (i := 53) rfl)) rfl
theorem wfl_RX6_229 : Cond.fieldLink RX6 229 "RoofOrdinances$City" "walks" "[I" ∈ TB := TB_of (tb_1 (List.mem_of_getElem? (i := 54) rfl)) rfl
theorem wfl_RX0_65 : Cond.fieldLink RX0 65 "RoofOrdinances$City" "truces" "I" ∈ TB := TB_of (tb_1 (List.mem_of_getElem? (i := 55) rfl)) rfl
theorem wfl_RX6_217 : Cond.fieldLink RX6 217 "RoofOrdinances$City" "truces" "I" ∈ TB := TB_of (tb_1 (List.mem_of_getElem? (i := 56) rfl)) rfl
theorem wfl_RX0_68 : Cond.fieldLink RX0 68 "RoofOrdinances$City" "chimneys" "I" ∈ TB := TB_of (tb_1 (List.mem_of_getElem? (i := 57) rfl)) rfl
theorem wfl_RX6_171 : Cond.fieldLink RX6 171 "RoofOrdinances$City" "chimneys" "I" ∈ TB := TB_of (tb_1 (List.mem_of_getElem? (i := 58) rfl)) rfl
theorem wfl_RX0_71 : Cond.fieldLink RX0 71 "RoofOrdinances$City" "coops" "I" ∈ TB := TB_of (tb_1 (List.mem_of_getElem? (i := 59) rfl)) rfl
theorem wfl_RX6_94 : Cond.fieldLink RX6 94 "RoofOrdinances$City" "coops" "I" ∈ TB := TB_of (tb_1 (List.mem_of_getElem? (i := 60) rfl)) rfl
theorem wfl_RX0_36 : Cond.fieldLink RX0 36 "RoofOrdinances$City" "windTo" "I" ∈ TB := TB_of (tb_1 (List.mem_of_getElem? (i := 61) rfl)) rfl
theorem wfl_RX6_74 : Cond.fieldLink RX6 74 "RoofOrdinances$City" "windTo" "I" ∈ TB := TB_of (tb_1 (List.mem_of_getElem? (i := 62) rfl)) rfl
theorem wfl_RX0_40 : Cond.fieldLink RX0 40 "RoofOrdinances$City" "smokeReach" "I" ∈ TB := TB_of (tb_1 (List.mem_of_getElem? (i := 63) rfl)) rfl
theorem wfl_RX6_111 : Cond.fieldLink RX6 111 "RoofOrdinances$City" "smokeReach" "I" ∈ TB := TB_of (tb_1 (List.mem_of_getElem? (i := 64) rfl)) rfl
theorem wfl_RX0_74 : Cond.fieldLink RX0 74 "RoofOrdinances$City" "dayNumber" "I" ∈ TB := TB_of (tb_1 (List.mem_of_getElem? (i := 65) rfl)) rfl
theorem wfl_RX0_43 : Cond.fieldLink RX0 43 "RoofOrdinances$City" "lot" "I" ∈ TB := TB_of (tb_1 (List.mem_of_getElem? (i := 66) rfl)) rfl
theorem wfl_RX0_77 : Cond.fieldLink RX0 77 "RoofOrdinances$City" "hung" "I" ∈ TB := TB_of (tb_1 (List.mem_of_getElem? (i := 67) rfl)) rfl
theorem wfl_RX0_80 : Cond.fieldLink RX0 80 "RoofOrdinances$City" "taken" "I" ∈ TB := TB_of (tb_1 (List.mem_of_getElem? (i := 68) rfl)) rfl
theorem wfl_RX0_83 : Cond.fieldLink RX0 83 "RoofOrdinances$City" "fallen" "I" ∈ TB := TB_of (tb_1 (List.mem_of_getElem? (i := 69) rfl)) rfl
theorem wfl_RX0_86 : Cond.fieldLink RX0 86 "RoofOrdinances$City" "refused" "I" ∈ TB := TB_of (tb_1 (List.mem_of_getElem? (i := 70) rfl)) rfl
theorem wla_RX0_borne : Cond.laysFinal RX0 "RoofOrdinances$City" "borne" "[I" ∈ TB := TB_of (tb_1 (List.mem_of_getElem? (i := 71) rfl)) rfl
theorem wla_RX0_hangers : Cond.laysFinal RX0 "RoofOrdinances$City" "hangers" "[I" ∈ TB := TB_of (tb_1 (List.mem_of_getElem? (i := 73) rfl)) rfl
theorem wla_RX0_soot : Cond.laysFinal RX0 "RoofOrdinances$City" "soot" "[I" ∈ TB := TB_of (tb_1 (List.mem_of_getElem? (i := 75) rfl)) rfl
theorem wla_RX0_spots : Cond.laysFinal RX0 "RoofOrdinances$City" "spots" "[I" ∈ TB := TB_of (tb_1 (List.mem_of_getElem? (i := 77) rfl)) rfl
theorem wla_RX0_weights : Cond.laysFinal RX0 "RoofOrdinances$City" "weights" "[I" ∈ TB := TB_of (tb_1 (List.mem_of_getElem? (i := 79) rfl)) rfl
theorem wla_RX0_keys : Cond.laysFinal RX0 "RoofOrdinances$City" "keys" "[I" ∈ TB := TB_of (tb_1 (List.mem_of_getElem? (i := 81) rfl)) rfl
theorem wla_RX0_places : Cond.laysFinal RX0 "RoofOrdinances$City" "places" "[I" ∈ TB := TB_of (tb_1 (List.mem_of_getElem? (i := 83) rfl)) rfl
theorem wla_RX0_walks : Cond.laysFinal RX0 "RoofOrdinances$City" "walks" "[I" ∈ TB := TB_of (tb_1 (List.mem_of_getElem? (i := 85) rfl)) rfl
theorem wla_RX0_truces : Cond.lays RX0 "RoofOrdinances$City" "truces" "I" ∈ TB := TB_of (tb_1 (List.mem_of_getElem? (i := 87) rfl)) rfl
theorem wla_RX0_chimneys : Cond.lays RX0 "RoofOrdinances$City" "chimneys" "I" ∈ TB := TB_of (tb_1 (List.mem_of_getElem? (i := 89) rfl)) rfl
theorem wla_RX0_coops : Cond.lays RX0 "RoofOrdinances$City" "coops" "I" ∈ TB := TB_of (tb_1 (List.mem_of_getElem? (i := 91) rfl)) rfl
theorem wla_RX0_windTo : Cond.lays RX0 "RoofOrdinances$City" "windTo" "I" ∈ TB := TB_of (tb_1 (List.mem_of_getElem? (i := 93) rfl)) rfl
theorem wla_RX0_smokeReach : Cond.lays RX0 "RoofOrdinances$City" "smokeReach" "I" ∈ TB := TB_of (tb_1 (List.mem_of_getElem? (i := 95) rfl)) rfl
theorem wla_RX0_dayNumber : Cond.lays RX0 "RoofOrdinances$City" "dayNumber" "I" ∈ TB := TB_of (tb_1 (List.mem_of_getElem? (i := 97) rfl)) rfl
theorem wla_RX0_lot : Cond.lays RX0 "RoofOrdinances$City" "lot" "I" ∈ TB := TB_of (tb_1 (List.mem_of_getElem? (i := 99) rfl)) rfl
theorem wla_RX0_hung : Cond.lays RX0 "RoofOrdinances$City" "hung" "I" ∈ TB := TB_of (tb_1 (List.mem_of_getElem? (i := 101) rfl)) rfl
theorem wla_RX0_taken : Cond.lays RX0 "RoofOrdinances$City" "taken" "I" ∈ TB := TB_of (tb_1 (List.mem_of_getElem? (i := 103) rfl)) rfl
theorem wla_RX0_fallen : Cond.lays RX0 "RoofOrdinances$City" "fallen" "I" ∈ TB := TB_of (tb_1 (List.mem_of_getElem? (i := 105) rfl)) rfl
theorem wla_RX0_refused : Cond.lays RX0 "RoofOrdinances$City" "refused" "I" ∈ TB := TB_of (tb_1 (List.mem_of_getElem? (i := 107) rfl)) rfl
theorem wac_int : Cond.arrayClass .int ∈ TB := TB_of (tb_1 (List.mem_of_getElem? (i := 110) rfl)) rfl
theorem wcl_RX6_22 : Cond.classLink RX6 22 RX1 ∈ TB := TB_of (tb_1 (List.mem_of_getElem? (i := 111) rfl)) rfl
theorem wis_RX1 : Cond.instantiable RX1 2 ∈ TB := TB_of (tb_1 (List.mem_of_getElem? (i := 112) rfl)) rfl
theorem wml_RX6_24 : Cond.methodLink RX6 24 yX1_init ∈ TB := TB_of (tb_1 (List.mem_of_getElem? (i := 113) rfl)) rfl
theorem wim_X1_init : Cond.instanceMethod yX1_init ∈ TB := TB_of (tb_1 (List.mem_of_getElem? (i := 114) rfl)) rfl
theorem wcd_X1_init : Cond.code yX1_init cX1_init 2 none ∈ TB := TB_of (tb_1 (List.mem_of_getElem? (i := 115) rfl)) rfl
theorem wml_RX1_3 : Cond.methodLink RX1 3 objectInit ∈ TB := TB_of (tb_1 (List.mem_of_getElem? (i := 116) rfl)) rfl
theorem wcl_RX1_9 : Cond.classLink RX1 9 RX0 ∈ TB := TB_of (tb_1 (List.mem_of_getElem? (i := 117) rfl)) rfl
theorem wml_RX1_17 : Cond.methodLink RX1 17 yX0_init ∈ TB := TB_of (tb_1 (List.mem_of_getElem? (i := 119) rfl)) rfl
theorem wfl_RX1_11 : Cond.fieldLink RX1 11 "RoofOrdinances$History" "states" "[LRoofOrdinances$City;" ∈ TB := TB_of (tb_1 (List.mem_of_getElem? (i := 120) rfl)) rfl
theorem wfl_RX1_22 : Cond.fieldLink RX1 22 "RoofOrdinances$History" "size" "I" ∈ TB := TB_of (tb_1 (List.mem_of_getElem? (i := 121) rfl)) rfl
theorem wfl_RX6_248 : Cond.fieldLink RX6 248 "RoofOrdinances$History" "size" "I" ∈ TB := TB_of (tb_1 (List.mem_of_getElem? (i := 122) rfl)) rfl
theorem wla_RX1_states : Cond.laysFinal RX1 "RoofOrdinances$History" "states" "[LRoofOrdinances$City;" ∈ TB := TB_of (tb_1 (List.mem_of_getElem? (i := 123) rfl)) rfl
theorem wla_RX1_size : Cond.lays RX1 "RoofOrdinances$History" "size" "I" ∈ TB := TB_of (tb_1 (List.mem_of_getElem? (i := 125) rfl)) rfl
theorem wcl_RX6_29 : Cond.classLink RX6 29 RX5 ∈ TB := TB_of (tb_1 (List.mem_of_getElem? (i := 128) rfl)) rfl
theorem wis_RX5 : Cond.instantiable RX5 2 ∈ TB := TB_of (tb_1 (List.mem_of_getElem? (i := 129) rfl)) rfl
theorem wim_X5_init : Cond.instanceMethod yX5_init ∈ TB := TB_of (tb_1 (List.mem_of_getElem? (i := 131) rfl)) rfl
theorem wcd_X5_init : Cond.code yX5_init cX5_init 1 none ∈ TB := TB_of (tb_1 (List.mem_of_getElem? (i := 132) rfl)) rfl
theorem wml_RX5_3 : Cond.methodLink RX5 3 objectInit ∈ TB := TB_of (tb_1 (List.mem_of_getElem? (i := 133) rfl)) rfl
theorem wfl_RX5_9 : Cond.fieldLink RX5 9 "RoofOrdinances$Ways" "groups" "[I" ∈ TB := TB_of (tb_1 (List.mem_of_getElem? (i := 134) rfl)) rfl
theorem wfl_RX5_15 : Cond.fieldLink RX5 15 "RoofOrdinances$Ways" "strengths" "[I" ∈ TB := TB_of (tb_1 (List.mem_of_getElem? (i := 135) rfl)) rfl
theorem wla_RX5_groups : Cond.laysFinal RX5 "RoofOrdinances$Ways" "groups" "[I" ∈ TB := TB_of (tb_1 (List.mem_of_getElem? (i := 136) rfl)) rfl
theorem wla_RX5_strengths : Cond.laysFinal RX5 "RoofOrdinances$Ways" "strengths" "[I" ∈ TB := TB_of (tb_1 (List.mem_of_getElem? (i := 138) rfl)) rfl
theorem wcl_RX6_36 : Cond.classLink RX6 36 RX3 ∈ TB := TB_of (tb_1 (List.mem_of_getElem? (i := 141) rfl)) rfl
theorem wis_RX3 : Cond.instantiable RX3 2 ∈ TB := TB_of (tb_1 (List.mem_of_getElem? (i := 142) rfl)) rfl
theorem wim_X3_init : Cond.instanceMethod yX3_init ∈ TB := TB_of (tb_1 (List.mem_of_getElem? (i := 144) rfl)) rfl
theorem wcd_X3_init : Cond.code yX3_init cX3_init 1 none ∈ TB := TB_of (tb_1 (List.mem_of_getElem? (i := 145) rfl)) rfl
theorem wml_RX3_3 : Cond.methodLink RX3 3 objectInit ∈ TB := TB_of (tb_1 (List.mem_of_getElem? (i := 146) rfl)) rfl
theorem wfl_RX3_9 : Cond.fieldLink RX3 9 "RoofOrdinances$Pad" "signs" "[C" ∈ TB := TB_of (tb_1 (List.mem_of_getElem? (i := 147) rfl)) rfl
theorem wfl_RX3_15 : Cond.fieldLink RX3 15 "RoofOrdinances$Pad" "length" "I" ∈ TB := TB_of (tb_1 (List.mem_of_getElem? (i := 148) rfl)) rfl
theorem wfl_RX2_26 : Cond.fieldLink RX2 26 "RoofOrdinances$Pad" "length" "I" ∈ TB := TB_of (tb_1 (List.mem_of_getElem? (i := 149) rfl)) rfl
theorem wfl_RX6_135 : Cond.fieldLink RX6 135 "RoofOrdinances$Pad" "length" "I" ∈ TB := TB_of (tb_1 (List.mem_of_getElem? (i := 150) rfl)) rfl
theorem wla_RX3_signs : Cond.laysFinal RX3 "RoofOrdinances$Pad" "signs" "[C" ∈ TB := TB_of (tb_1 (List.mem_of_getElem? (i := 151) rfl)) rfl
theorem wla_RX3_length : Cond.lays RX3 "RoofOrdinances$Pad" "length" "I" ∈ TB := TB_of (tb_1 (List.mem_of_getElem? (i := 153) rfl)) rfl
theorem wac_char : Cond.arrayClass .char ∈ TB := TB_of (tb_1 (List.mem_of_getElem? (i := 156) rfl)) rfl
theorem wcl_RX6_43 : Cond.classLink RX6 43 RX2 ∈ TB := TB_of (tb_1 (List.mem_of_getElem? (i := 157) rfl)) rfl
theorem wis_RX2 : Cond.instantiable RX2 6 ∈ TB := TB_of (tb_1 (List.mem_of_getElem? (i := 158) rfl)) rfl
theorem wml_RX6_45 : Cond.methodLink RX6 45 yX2_init ∈ TB := TB_of (tb_1 (List.mem_of_getElem? (i := 159) rfl)) rfl
theorem wim_X2_init : Cond.instanceMethod yX2_init ∈ TB := TB_of (tb_1 (List.mem_of_getElem? (i := 160) rfl)) rfl
theorem wcd_X2_init : Cond.code yX2_init cX2_init 2 none ∈ TB := TB_of (tb_1 (List.mem_of_getElem? (i := 161) rfl)) rfl
theorem wml_RX2_3 : Cond.methodLink RX2 3 objectInit ∈ TB := TB_of (tb_1 (List.mem_of_getElem? (i := 162) rfl)) rfl
theorem wfl_RX2_9 : Cond.fieldLink RX2 9 "RoofOrdinances$OrderReader" "text" "LRoofOrdinances$Pad;" ∈ TB := TB_of (tb_1 (List.mem_of_getElem? (i := 163) rfl)) rfl
theorem wfl_RX2_15 : Cond.fieldLink RX2 15 "RoofOrdinances$OrderReader" "position" "I" ∈ TB := TB_of (tb_1 (List.mem_of_getElem? (i := 164) rfl)) rfl
theorem wfl_RX2_35 : Cond.fieldLink RX2 35 "RoofOrdinances$OrderReader" "start" "I" ∈ TB := TB_of (tb_1 (List.mem_of_getElem? (i := 165) rfl)) rfl
theorem wfl_RX6_276 : Cond.fieldLink RX6 276 "RoofOrdinances$OrderReader" "start" "I" ∈ TB := TB_of (tb_1 (List.mem_of_getElem? (i := 166) rfl)) rfl
theorem wfl_RX2_42 : Cond.fieldLink RX2 42 "RoofOrdinances$OrderReader" "letter" "C" ∈ TB := TB_of (tb_1 (List.mem_of_getElem? (i := 167) rfl)) rfl
theorem wfl_RX6_279 : Cond.fieldLink RX6 279 "RoofOrdinances$OrderReader" "letter" "C" ∈ TB := TB_of (tb_1 (List.mem_of_getElem? (i := 168) rfl)) rfl
theorem wfl_RX2_57 : Cond.fieldLink RX2 57 "RoofOrdinances$OrderReader" "orderOwner" "I" ∈ TB := TB_of (tb_1 (List.mem_of_getElem? (i := 169) rfl)) rfl
theorem wfl_RX6_283 : Cond.fieldLink RX6 283 "RoofOrdinances$OrderReader" "orderOwner" "I" ∈ TB := TB_of (tb_1 (List.mem_of_getElem? (i := 170) rfl)) rfl
theorem wfl_RX2_68 : Cond.fieldLink RX2 68 "RoofOrdinances$OrderReader" "orderNumber" "I" ∈ TB := TB_of (tb_1 (List.mem_of_getElem? (i := 171) rfl)) rfl
theorem wfl_RX6_286 : Cond.fieldLink RX6 286 "RoofOrdinances$OrderReader" "orderNumber" "I" ∈ TB := TB_of (tb_1 (List.mem_of_getElem? (i := 172) rfl)) rfl
theorem wla_RX2_text : Cond.laysFinal RX2 "RoofOrdinances$OrderReader" "text" "LRoofOrdinances$Pad;" ∈ TB := TB_of (tb_1 (List.mem_of_getElem? (i := 173) rfl)) rfl
theorem wla_RX2_position : Cond.lays RX2 "RoofOrdinances$OrderReader" "position" "I" ∈ TB := TB_of (tb_1 (List.mem_of_getElem? (i := 175) rfl)) rfl
theorem wla_RX2_start : Cond.lays RX2 "RoofOrdinances$OrderReader" "start" "I" ∈ TB := TB_of (tb_1 (List.mem_of_getElem? (i := 177) rfl)) rfl
theorem wla_RX2_letter : Cond.lays RX2 "RoofOrdinances$OrderReader" "letter" "C" ∈ TB := TB_of (tb_1 (List.mem_of_getElem? (i := 179) rfl)) rfl
theorem wla_RX2_orderOwner : Cond.lays RX2 "RoofOrdinances$OrderReader" "orderOwner" "I" ∈ TB := TB_of (tb_1 (List.mem_of_getElem? (i := 181) rfl)) rfl
theorem wla_RX2_orderNumber : Cond.lays RX2 "RoofOrdinances$OrderReader" "orderNumber" "I" ∈ TB := TB_of (tb_1 (List.mem_of_getElem? (i := 183) rfl)) rfl
theorem wfl_RX6_10 : Cond.fieldLink RX6 10 "RoofOrdinances" "city" "LRoofOrdinances$City;" ∈ TB := TB_of (tb_1 (List.mem_of_getElem? (i := 186) rfl)) rfl
theorem wfl_RX6_16 : Cond.fieldLink RX6 16 "RoofOrdinances" "trial" "LRoofOrdinances$City;" ∈ TB := TB_of (tb_1 (List.mem_of_getElem? (i := 187) rfl)) rfl
theorem wfl_RX6_19 : Cond.fieldLink RX6 19 "RoofOrdinances" "snapshot" "LRoofOrdinances$City;" ∈ TB := TB_of (tb_1 (List.mem_of_getElem? (i := 188) rfl)) rfl
theorem wfl_RX6_273 : Cond.fieldLink RX6 273 "RoofOrdinances" "snapshotTaken" "Z" ∈ TB := TB_of (tb_1 (List.mem_of_getElem? (i := 189) rfl)) rfl
theorem wfl_RX6_25 : Cond.fieldLink RX6 25 "RoofOrdinances" "history" "LRoofOrdinances$History;" ∈ TB := TB_of (tb_1 (List.mem_of_getElem? (i := 190) rfl)) rfl
theorem wfl_RX6_32 : Cond.fieldLink RX6 32 "RoofOrdinances" "ways" "LRoofOrdinances$Ways;" ∈ TB := TB_of (tb_1 (List.mem_of_getElem? (i := 191) rfl)) rfl
theorem wfl_RX6_39 : Cond.fieldLink RX6 39 "RoofOrdinances" "pad" "LRoofOrdinances$Pad;" ∈ TB := TB_of (tb_1 (List.mem_of_getElem? (i := 192) rfl)) rfl
theorem wfl_RX6_48 : Cond.fieldLink RX6 48 "RoofOrdinances" "reader" "LRoofOrdinances$OrderReader;" ∈ TB := TB_of (tb_1 (List.mem_of_getElem? (i := 193) rfl)) rfl
theorem wfl_RX6_145 : Cond.fieldLink RX6 145 "RoofOrdinances" "stopped" "Z" ∈ TB := TB_of (tb_1 (List.mem_of_getElem? (i := 194) rfl)) rfl
theorem wfl_RX6_162 : Cond.fieldLink RX6 162 "RoofOrdinances" "stopCause" "I" ∈ TB := TB_of (tb_1 (List.mem_of_getElem? (i := 195) rfl)) rfl
theorem wfl_RX6_165 : Cond.fieldLink RX6 165 "RoofOrdinances" "stopNumber" "I" ∈ TB := TB_of (tb_1 (List.mem_of_getElem? (i := 196) rfl)) rfl
theorem wfl_RX6_168 : Cond.fieldLink RX6 168 "RoofOrdinances" "stopPosition" "I" ∈ TB := TB_of (tb_1 (List.mem_of_getElem? (i := 197) rfl)) rfl
theorem wla_RX6_city : Cond.laysFinal RX6 "RoofOrdinances" "city" "LRoofOrdinances$City;" ∈ TB := TB_of (tb_1 (List.mem_of_getElem? (i := 198) rfl)) rfl
theorem wla_RX6_trial : Cond.laysFinal RX6 "RoofOrdinances" "trial" "LRoofOrdinances$City;" ∈ TB := TB_of (tb_1 (List.mem_of_getElem? (i := 200) rfl)) rfl
theorem wla_RX6_snapshot : Cond.laysFinal RX6 "RoofOrdinances" "snapshot" "LRoofOrdinances$City;" ∈ TB := TB_of (tb_1 (List.mem_of_getElem? (i := 202) rfl)) rfl
theorem wla_RX6_snapshotTaken : Cond.lays RX6 "RoofOrdinances" "snapshotTaken" "Z" ∈ TB := TB_of (tb_1 (List.mem_of_getElem? (i := 204) rfl)) rfl
theorem wla_RX6_history : Cond.laysFinal RX6 "RoofOrdinances" "history" "LRoofOrdinances$History;" ∈ TB := TB_of (tb_1 (List.mem_of_getElem? (i := 206) rfl)) rfl
theorem wla_RX6_ways : Cond.laysFinal RX6 "RoofOrdinances" "ways" "LRoofOrdinances$Ways;" ∈ TB := TB_of (tb_1 (List.mem_of_getElem? (i := 208) rfl)) rfl
theorem wla_RX6_pad : Cond.laysFinal RX6 "RoofOrdinances" "pad" "LRoofOrdinances$Pad;" ∈ TB := TB_of (tb_1 (List.mem_of_getElem? (i := 210) rfl)) rfl
theorem wla_RX6_reader : Cond.laysFinal RX6 "RoofOrdinances" "reader" "LRoofOrdinances$OrderReader;" ∈ TB := TB_of (tb_1 (List.mem_of_getElem? (i := 212) rfl)) rfl
theorem wla_RX6_stopped : Cond.lays RX6 "RoofOrdinances" "stopped" "Z" ∈ TB := TB_of (tb_1 (List.mem_of_getElem? (i := 214) rfl)) rfl
theorem wla_RX6_stopCause : Cond.lays RX6 "RoofOrdinances" "stopCause" "I" ∈ TB := TB_of (tb_1 (List.mem_of_getElem? (i := 216) rfl)) rfl
theorem wla_RX6_stopNumber : Cond.lays RX6 "RoofOrdinances" "stopNumber" "I" ∈ TB := TB_of (tb_1 (List.mem_of_getElem? (i := 218) rfl)) rfl
theorem wla_RX6_stopPosition : Cond.lays RX6 "RoofOrdinances" "stopPosition" "I" ∈ TB := TB_of (tb_1 (List.mem_of_getElem? (i := 220) rfl)) rfl
theorem wml_RL_13 : Cond.methodLink RL 13 yX6_bears ∈ TB := TB_of (tb_1 (List.mem_of_getElem? (i := 223) rfl)) rfl
theorem wim_X6_bears : Cond.instanceMethod yX6_bears ∈ TB := TB_of (tb_1 (List.mem_of_getElem? (i := 224) rfl)) rfl
theorem wse_X6_bears : Cond.selects RX6 yX6_bears yX6_bears ∈ TB := TB_of (tb_1 (List.mem_of_getElem? (i := 225) rfl)) rfl
theorem wcd_X6_bears : Cond.code yX6_bears cX6_bears 4 (some .int) ∈ TB := TB_of (tb_1 (List.mem_of_getElem? (i := 226) rfl)) rfl
theorem wml_RX6_52 : Cond.methodLink RX6 52 yX4_isGangway ∈ TB := TB_of (tb_1 (List.mem_of_getElem? (i := 227) rfl)) rfl
theorem wml_RX6_58 : Cond.methodLink RX6 58 yX6_isWithin ∈ TB := TB_of (tb_1 (List.mem_of_getElem? (i := 228) rfl)) rfl
theorem wml_RX6_62 : Cond.methodLink RX6 62 yX1_push ∈ TB := TB_of (tb_1 (List.mem_of_getElem? (i := 229) rfl)) rfl
theorem wim_X1_push : Cond.instanceMethod yX1_push ∈ TB := TB_of (tb_1 (List.mem_of_getElem? (i := 230) rfl)) rfl
theorem wse_X1_push : Cond.selects RX1 yX1_push yX1_push ∈ TB := TB_of (tb_1 (List.mem_of_getElem? (i := 231) rfl)) rfl
theorem wcd_X1_push : Cond.code yX1_push cX1_push 4 none ∈ TB := TB_of (tb_1 (List.mem_of_getElem? (i := 232) rfl)) rfl
theorem wml_RX1_18 : Cond.methodLink RX1 18 yX0_copyFrom ∈ TB := TB_of (tb_1 (List.mem_of_getElem? (i := 233) rfl)) rfl
theorem wim_X0_copyFrom : Cond.instanceMethod yX0_copyFrom ∈ TB := TB_of (tb_1 (List.mem_of_getElem? (i := 234) rfl)) rfl
theorem wse_X0_copyFrom : Cond.selects RX0 yX0_copyFrom yX0_copyFrom ∈ TB := TB_of (tb_1 (List.mem_of_getElem? (i := 235) rfl)) rfl
theorem wcd_X0_copyFrom : Cond.code yX0_copyFrom cX0_copyFrom 2 none ∈ TB := TB_of (tb_1 (List.mem_of_getElem? (i := 236) rfl)) rfl
theorem wml_RX0_59 : Cond.methodLink RX0 59 arraycopyName ∈ TB := TB_of (tb_1 (List.mem_of_getElem? (i := 237) rfl)) rfl
theorem wst_copy : Cond.static arraycopyName ∈ TB := TB_of (tb_1 (List.mem_of_getElem? (i := 238) rfl)) rfl
theorem wnat_copy : Cond.native arraycopyName ∈ TB := TB_of (tb_1 (List.mem_of_getElem? (i := 239) rfl)) rfl
theorem wml_RX1_26 : Cond.methodLink RX1 26 yJ9_min_7cf53 ∈ TB := TB_of (tb_2 (List.mem_of_getElem? (i := 0) rfl)) rfl
theorem wst_J9_min_7cf53 : Cond.static yJ9_min_7cf53 ∈ TB := TB_of (tb_2 (List.mem_of_getElem? (i := 1) rfl)) rfl
theorem wcd_J9_min_7cf53 : Cond.code yJ9_min_7cf53 cJ9_min_7cf53 2 (some .int) ∈ TB := TB_of (tb_2 (List.mem_of_getElem? (i := 2) rfl)) rfl
theorem wml_RX6_70 : Cond.methodLink RX6 70 yX0_letBear ∈ TB := TB_of (tb_2 (List.mem_of_getElem? (i := 3) rfl)) rfl
theorem wim_X0_letBear : Cond.instanceMethod yX0_letBear ∈ TB := TB_of (tb_2 (List.mem_of_getElem? (i := 4) rfl)) rfl
theorem wse_X0_letBear : Cond.selects RX0 yX0_letBear yX0_letBear ∈ TB := TB_of (tb_2 (List.mem_of_getElem? (i := 5) rfl)) rfl
theorem wcd_X0_letBear : Cond.code yX0_letBear cX0_letBear 3 none ∈ TB := TB_of (tb_2 (List.mem_of_getElem? (i := 6) rfl)) rfl
theorem wml_RX0_89 : Cond.methodLink RX0 89 yX0_hasLine ∈ TB := TB_of (tb_2 (List.mem_of_getElem? (i := 7) rfl)) rfl
theorem wim_X0_hasLine : Cond.instanceMethod yX0_hasLine ∈ TB := TB_of (tb_2 (List.mem_of_getElem? (i := 8) rfl)) rfl
theorem wse_X0_hasLine : Cond.selects RX0 yX0_hasLine yX0_hasLine ∈ TB := TB_of (tb_2 (List.mem_of_getElem? (i := 9) rfl)) rfl
theorem wcd_X0_hasLine : Cond.code yX0_hasLine cX0_hasLine 2 (some .boolean) ∈ TB := TB_of (tb_2 (List.mem_of_getElem? (i := 10) rfl)) rfl
theorem wml_RL_18 : Cond.methodLink RL 18 yX6_wind ∈ TB := TB_of (tb_2 (List.mem_of_getElem? (i := 11) rfl)) rfl
theorem wim_X6_wind : Cond.instanceMethod yX6_wind ∈ TB := TB_of (tb_2 (List.mem_of_getElem? (i := 12) rfl)) rfl
theorem wse_X6_wind : Cond.selects RX6 yX6_wind yX6_wind ∈ TB := TB_of (tb_2 (List.mem_of_getElem? (i := 13) rfl)) rfl
theorem wcd_X6_wind : Cond.code yX6_wind cX6_wind 3 (some .int) ∈ TB := TB_of (tb_2 (List.mem_of_getElem? (i := 14) rfl)) rfl
theorem wml_RL_23 : Cond.methodLink RL 23 yX6_chimney ∈ TB := TB_of (tb_2 (List.mem_of_getElem? (i := 15) rfl)) rfl
theorem wim_X6_chimney : Cond.instanceMethod yX6_chimney ∈ TB := TB_of (tb_2 (List.mem_of_getElem? (i := 16) rfl)) rfl
theorem wse_X6_chimney : Cond.selects RX6 yX6_chimney yX6_chimney ∈ TB := TB_of (tb_2 (List.mem_of_getElem? (i := 17) rfl)) rfl
theorem wcd_X6_chimney : Cond.code yX6_chimney cX6_chimney 2 (some .int) ∈ TB := TB_of (tb_2 (List.mem_of_getElem? (i := 18) rfl)) rfl
theorem wml_RX6_78 : Cond.methodLink RX6 78 yX6_isRoof ∈ TB := TB_of (tb_2 (List.mem_of_getElem? (i := 19) rfl)) rfl
theorem wst_X6_isRoof : Cond.static yX6_isRoof ∈ TB := TB_of (tb_2 (List.mem_of_getElem? (i := 20) rfl)) rfl
theorem wcd_X6_isRoof : Cond.code yX6_isRoof cX6_isRoof 1 (some .boolean) ∈ TB := TB_of (tb_2 (List.mem_of_getElem? (i := 21) rfl)) rfl
theorem wml_RX6_81 : Cond.methodLink RX6 81 yX0_toggleChimney ∈ TB := TB_of (tb_2 (List.mem_of_getElem? (i := 22) rfl)) rfl
theorem wim_X0_toggleChimney : Cond.instanceMethod yX0_toggleChimney ∈ TB := TB_of (tb_2 (List.mem_of_getElem? (i := 23) rfl)) rfl
theorem wse_X0_toggleChimney : Cond.selects RX0 yX0_toggleChimney yX0_toggleChimney ∈ TB := TB_of (tb_2 (List.mem_of_getElem? (i := 24) rfl)) rfl
theorem wcd_X0_toggleChimney : Cond.code yX0_toggleChimney cX0_toggleChimney 2 none ∈ TB := TB_of (tb_2 (List.mem_of_getElem? (i := 25) rfl)) rfl
theorem wml_RX6_85 : Cond.methodLink RX6 85 yX0_smokeBlown ∈ TB := TB_of (tb_2 (List.mem_of_getElem? (i := 26) rfl)) rfl
theorem wim_X0_smokeBlown : Cond.instanceMethod yX0_smokeBlown ∈ TB := TB_of (tb_2 (List.mem_of_getElem? (i := 27) rfl)) rfl
theorem wse_X0_smokeBlown : Cond.selects RX0 yX0_smokeBlown yX0_smokeBlown ∈ TB := TB_of (tb_2 (List.mem_of_getElem? (i := 28) rfl)) rfl
theorem wcd_X0_smokeBlown : Cond.code yX0_smokeBlown cX0_smokeBlown 4 (some .int) ∈ TB := TB_of (tb_2 (List.mem_of_getElem? (i := 29) rfl)) rfl
theorem wst_X6_isIn : Cond.static yX6_isIn ∈ TB := TB_of (tb_2 (List.mem_of_getElem? (i := 31) rfl)) rfl
theorem wcd_X6_isIn : Cond.code yX6_isIn cX6_isIn 2 (some .boolean) ∈ TB := TB_of (tb_2 (List.mem_of_getElem? (i := 32) rfl)) rfl
theorem wml_RX0_96 : Cond.methodLink RX0 96 yX4_roofAndNext ∈ TB := TB_of (tb_2 (List.mem_of_getElem? (i := 33) rfl)) rfl
theorem wst_X4_roofAndNext : Cond.static yX4_roofAndNext ∈ TB := TB_of (tb_2 (List.mem_of_getElem? (i := 34) rfl)) rfl
theorem wcd_X4_roofAndNext : Cond.code yX4_roofAndNext cX4_roofAndNext 6 (some .int) ∈ TB := TB_of (tb_2 (List.mem_of_getElem? (i := 35) rfl)) rfl
theorem wml_RX4_33 : Cond.methodLink RX4 33 yX4_nextRoof ∈ TB := TB_of (tb_2 (List.mem_of_getElem? (i := 36) rfl)) rfl
theorem wst_X4_nextRoof : Cond.static yX4_nextRoof ∈ TB := TB_of (tb_2 (List.mem_of_getElem? (i := 37) rfl)) rfl
theorem wcd_X4_nextRoof : Cond.code yX4_nextRoof cX4_nextRoof 2 (some .int) ∈ TB := TB_of (tb_2 (List.mem_of_getElem? (i := 38) rfl)) rfl
theorem wml_RX6_89 : Cond.methodLink RX6 89 yJ6_bitCount_0f7a4 ∈ TB := TB_of (tb_2 (List.mem_of_getElem? (i := 39) rfl)) rfl
theorem wst_J6_bitCount_0f7a4 : Cond.static yJ6_bitCount_0f7a4 ∈ TB := TB_of (tb_2 (List.mem_of_getElem? (i := 40) rfl)) rfl
theorem wcd_J6_bitCount_0f7a4 : Cond.code yJ6_bitCount_0f7a4 cJ6_bitCount_0f7a4 1 (some .int) ∈ TB := TB_of (tb_2 (List.mem_of_getElem? (i := 41) rfl)) rfl
theorem wco_RJ6_265 : Cond.constant RJ6 265 1431655765 ∈ TB := TB_of (tb_2 (List.mem_of_getElem? (i := 42) rfl)) rfl
theorem wco_RJ6_266 : Cond.constant RJ6 266 858993459 ∈ TB := TB_of (tb_2 (List.mem_of_getElem? (i := 43) rfl)) rfl
theorem wco_RJ6_267 : Cond.constant RJ6 267 252645135 ∈ TB := TB_of (tb_2 (List.mem_of_getElem? (i := 44) rfl)) rfl
theorem wml_RL_27 : Cond.methodLink RL 27 yX6_coop ∈ TB := TB_of (tb_2 (List.mem_of_getElem? (i := 45) rfl)) rfl
theorem wim_X6_coop : Cond.instanceMethod yX6_coop ∈ TB := TB_of (tb_2 (List.mem_of_getElem? (i := 46) rfl)) rfl
theorem wse_X6_coop : Cond.selects RX6 yX6_coop yX6_coop ∈ TB := TB_of (tb_2 (List.mem_of_getElem? (i := 47) rfl)) rfl
theorem wcd_X6_coop : Cond.code yX6_coop cX6_coop 2 (some .int) ∈ TB := TB_of (tb_2 (List.mem_of_getElem? (i := 48) rfl)) rfl
theorem wml_RL_31 : Cond.methodLink RL 31 yX6_owner ∈ TB := TB_of (tb_2 (List.mem_of_getElem? (i := 49) rfl)) rfl
theorem wim_X6_owner : Cond.instanceMethod yX6_owner ∈ TB := TB_of (tb_2 (List.mem_of_getElem? (i := 50) rfl)) rfl
theorem wse_X6_owner : Cond.selects RX6 yX6_owner yX6_owner ∈ TB := TB_of (tb_2 (List.mem_of_getElem? (i := 51) rfl)) rfl
theorem wcd_X6_owner : Cond.code yX6_owner cX6_owner 6 (some .int) ∈ TB := TB_of (tb_2 (List.mem_of_getElem? (i := 52) rfl)) rfl
theorem wml_RX6_97 : Cond.methodLink RX6 97 yX6_isOwner ∈ TB := TB_of (tb_2 (List.mem_of_getElem? (i := 53) rfl)) rfl
theorem wst_X6_isOwner : Cond.static yX6_isOwner ∈ TB := TB_of (tb_2 (List.mem_of_getElem? (i := 54) rfl)) rfl
theorem wcd_X6_isOwner : Cond.code yX6_isOwner cX6_isOwner 1 (some .boolean) ∈ TB := TB_of (tb_2 (List.mem_of_getElem? (i := 55) rfl)) rfl
theorem wco_RX6_100 : Cond.constant RX6 100 65535 ∈ TB := TB_of (tb_2 (List.mem_of_getElem? (i := 56) rfl)) rfl
theorem wml_RX6_107 : Cond.methodLink RX6 107 yX0_setTruce ∈ TB := TB_of (tb_2 (List.mem_of_getElem? (i := 57) rfl)) rfl
theorem wim_X0_setTruce : Cond.instanceMethod yX0_setTruce ∈ TB := TB_of (tb_2 (List.mem_of_getElem? (i := 58) rfl)) rfl
theorem wse_X0_setTruce : Cond.selects RX0 yX0_setTruce yX0_setTruce ∈ TB := TB_of (tb_2 (List.mem_of_getElem? (i := 59) rfl)) rfl
theorem wcd_X0_setTruce : Cond.code yX0_setTruce cX0_setTruce 3 none ∈ TB := TB_of (tb_2 (List.mem_of_getElem? (i := 60) rfl)) rfl
theorem wml_RL_36 : Cond.methodLink RL 36 yX6_reach ∈ TB := TB_of (tb_2 (List.mem_of_getElem? (i := 61) rfl)) rfl
theorem wim_X6_reach : Cond.instanceMethod yX6_reach ∈ TB := TB_of (tb_2 (List.mem_of_getElem? (i := 62) rfl)) rfl
theorem wse_X6_reach : Cond.selects RX6 yX6_reach yX6_reach ∈ TB := TB_of (tb_2 (List.mem_of_getElem? (i := 63) rfl)) rfl
theorem wcd_X6_reach : Cond.code yX6_reach cX6_reach 3 (some .int) ∈ TB := TB_of (tb_2 (List.mem_of_getElem? (i := 64) rfl)) rfl
theorem wml_RL_40 : Cond.methodLink RL 40 yX6_hang ∈ TB := TB_of (tb_2 (List.mem_of_getElem? (i := 65) rfl)) rfl
theorem wim_X6_hang : Cond.instanceMethod yX6_hang ∈ TB := TB_of (tb_2 (List.mem_of_getElem? (i := 66) rfl)) rfl
theorem wse_X6_hang : Cond.selects RX6 yX6_hang yX6_hang ∈ TB := TB_of (tb_2 (List.mem_of_getElem? (i := 67) rfl)) rfl
theorem wcd_X6_hang : Cond.code yX6_hang cX6_hang 3 (some .int) ∈ TB := TB_of (tb_2 (List.mem_of_getElem? (i := 68) rfl)) rfl
theorem wml_RX6_114 : Cond.methodLink RX6 114 yX0_hangLine ∈ TB := TB_of (tb_2 (List.mem_of_getElem? (i := 69) rfl)) rfl
theorem wim_X0_hangLine : Cond.instanceMethod yX0_hangLine ∈ TB := TB_of (tb_2 (List.mem_of_getElem? (i := 70) rfl)) rfl
theorem wse_X0_hangLine : Cond.selects RX0 yX0_hangLine yX0_hangLine ∈ TB := TB_of (tb_2 (List.mem_of_getElem? (i := 71) rfl)) rfl
theorem wcd_X0_hangLine : Cond.code yX0_hangLine cX0_hangLine 4 (some .int) ∈ TB := TB_of (tb_2 (List.mem_of_getElem? (i := 72) rfl)) rfl
theorem wml_RX0_122 : Cond.methodLink RX0 122 yX0_reasonNotToHang ∈ TB := TB_of (tb_2 (List.mem_of_getElem? (i := 73) rfl)) rfl
theorem wim_X0_reasonNotToHang : Cond.instanceMethod yX0_reasonNotToHang ∈ TB := TB_of (tb_2 (List.mem_of_getElem? (i := 74) rfl)) rfl
theorem wse_X0_reasonNotToHang : Cond.selects RX0 yX0_reasonNotToHang yX0_reasonNotToHang ∈ TB := TB_of (tb_2 (List.mem_of_getElem? (i := 75) rfl)) rfl
theorem wcd_X0_reasonNotToHang : Cond.code yX0_reasonNotToHang cX0_reasonNotToHang 4 (some .int) ∈ TB := TB_of (tb_2 (List.mem_of_getElem? (i := 76) rfl)) rfl
theorem wml_RX0_104 : Cond.methodLink RX0 104 yX4_roofsOf ∈ TB := TB_of (tb_2 (List.mem_of_getElem? (i := 77) rfl)) rfl
theorem wst_X4_roofsOf : Cond.static yX4_roofsOf ∈ TB := TB_of (tb_2 (List.mem_of_getElem? (i := 78) rfl)) rfl
theorem wcd_X4_roofsOf : Cond.code yX4_roofsOf cX4_roofsOf 1 (some .int) ∈ TB := TB_of (tb_2 (List.mem_of_getElem? (i := 79) rfl)) rfl
theorem wml_RX4_13 : Cond.methodLink RX4 13 yX4_lesserRoof ∈ TB := TB_of (tb_2 (List.mem_of_getElem? (i := 80) rfl)) rfl
theorem wst_X4_lesserRoof : Cond.static yX4_lesserRoof ∈ TB := TB_of (tb_2 (List.mem_of_getElem? (i := 81) rfl)) rfl
theorem wcd_X4_lesserRoof : Cond.code yX4_lesserRoof cX4_lesserRoof 1 (some .int) ∈ TB := TB_of (tb_2 (List.mem_of_getElem? (i := 82) rfl)) rfl
theorem wml_RX4_19 : Cond.methodLink RX4 19 yX4_greaterRoof ∈ TB := TB_of (tb_2 (List.mem_of_getElem? (i := 83) rfl)) rfl
theorem wst_X4_greaterRoof : Cond.static yX4_greaterRoof ∈ TB := TB_of (tb_2 (List.mem_of_getElem? (i := 84) rfl)) rfl
theorem wcd_X4_greaterRoof : Cond.code yX4_greaterRoof cX4_greaterRoof 1 (some .int) ∈ TB := TB_of (tb_2 (List.mem_of_getElem? (i := 85) rfl)) rfl
theorem wml_RX0_116 : Cond.methodLink RX0 116 yX0_isThere ∈ TB := TB_of (tb_2 (List.mem_of_getElem? (i := 86) rfl)) rfl
theorem wim_X0_isThere : Cond.instanceMethod yX0_isThere ∈ TB := TB_of (tb_2 (List.mem_of_getElem? (i := 87) rfl)) rfl
theorem wse_X0_isThere : Cond.selects RX0 yX0_isThere yX0_isThere ∈ TB := TB_of (tb_2 (List.mem_of_getElem? (i := 88) rfl)) rfl
theorem wcd_X0_isThere : Cond.code yX0_isThere cX0_isThere 2 (some .boolean) ∈ TB := TB_of (tb_2 (List.mem_of_getElem? (i := 89) rfl)) rfl
theorem wml_RX0_100 : Cond.methodLink RX0 100 yX0_smokeBlown ∈ TB := TB_of (tb_2 (List.mem_of_getElem? (i := 90) rfl)) rfl
theorem wml_RX0_119 : Cond.methodLink RX0 119 yX0_isNearCoop ∈ TB := TB_of (tb_2 (List.mem_of_getElem? (i := 91) rfl)) rfl
theorem wim_X0_isNearCoop : Cond.instanceMethod yX0_isNearCoop ∈ TB := TB_of (tb_2 (List.mem_of_getElem? (i := 92) rfl)) rfl
theorem wse_X0_isNearCoop : Cond.selects RX0 yX0_isNearCoop yX0_isNearCoop ∈ TB := TB_of (tb_2 (List.mem_of_getElem? (i := 93) rfl)) rfl
theorem wcd_X0_isNearCoop : Cond.code yX0_isNearCoop cX0_isNearCoop 3 (some .boolean) ∈ TB := TB_of (tb_2 (List.mem_of_getElem? (i := 94) rfl)) rfl
theorem wml_RX0_107 : Cond.methodLink RX0 107 yX4_lesserRoof ∈ TB := TB_of (tb_2 (List.mem_of_getElem? (i := 95) rfl)) rfl
theorem wml_RX0_110 : Cond.methodLink RX0 110 yX4_roofAndNeighbours ∈ TB := TB_of (tb_2 (List.mem_of_getElem? (i := 96) rfl)) rfl
theorem wst_X4_roofAndNeighbours : Cond.static yX4_roofAndNeighbours ∈ TB := TB_of (tb_2 (List.mem_of_getElem? (i := 97) rfl)) rfl
theorem wcd_X4_roofAndNeighbours : Cond.code yX4_roofAndNeighbours cX4_roofAndNeighbours 4 (some .int) ∈ TB := TB_of (tb_2 (List.mem_of_getElem? (i := 98) rfl)) rfl
theorem wml_RX0_113 : Cond.methodLink RX0 113 yX4_greaterRoof ∈ TB := TB_of (tb_2 (List.mem_of_getElem? (i := 99) rfl)) rfl
theorem wml_RX0_126 : Cond.methodLink RX0 126 yX0_allLines ∈ TB := TB_of (tb_2 (List.mem_of_getElem? (i := 100) rfl)) rfl
theorem wim_X0_allLines : Cond.instanceMethod yX0_allLines ∈ TB := TB_of (tb_2 (List.mem_of_getElem? (i := 101) rfl)) rfl
theorem wse_X0_allLines : Cond.selects RX0 yX0_allLines yX0_allLines ∈ TB := TB_of (tb_2 (List.mem_of_getElem? (i := 102) rfl)) rfl
theorem wcd_X0_allLines : Cond.code yX0_allLines cX0_allLines 3 (some .int) ∈ TB := TB_of (tb_2 (List.mem_of_getElem? (i := 103) rfl)) rfl
theorem wml_RX0_130 : Cond.methodLink RX0 130 yJ6_bitCount_0f7a4 ∈ TB := TB_of (tb_2 (List.mem_of_getElem? (i := 104) rfl)) rfl
theorem wml_RL_44 : Cond.methodLink RL 44 yX6_take ∈ TB := TB_of (tb_2 (List.mem_of_getElem? (i := 105) rfl)) rfl
theorem wim_X6_take : Cond.instanceMethod yX6_take ∈ TB := TB_of (tb_2 (List.mem_of_getElem? (i := 106) rfl)) rfl
theorem wse_X6_take : Cond.selects RX6 yX6_take yX6_take ∈ TB := TB_of (tb_2 (List.mem_of_getElem? (i := 107) rfl)) rfl
theorem wcd_X6_take : Cond.code yX6_take cX6_take 3 (some .int) ∈ TB := TB_of (tb_2 (List.mem_of_getElem? (i := 108) rfl)) rfl
theorem wml_RX6_118 : Cond.methodLink RX6 118 yX0_takeLine ∈ TB := TB_of (tb_2 (List.mem_of_getElem? (i := 109) rfl)) rfl
theorem wim_X0_takeLine : Cond.instanceMethod yX0_takeLine ∈ TB := TB_of (tb_2 (List.mem_of_getElem? (i := 110) rfl)) rfl
theorem wse_X0_takeLine : Cond.selects RX0 yX0_takeLine yX0_takeLine ∈ TB := TB_of (tb_2 (List.mem_of_getElem? (i := 111) rfl)) rfl
theorem wcd_X0_takeLine : Cond.code yX0_takeLine cX0_takeLine 3 (some .int) ∈ TB := TB_of (tb_2 (List.mem_of_getElem? (i := 112) rfl)) rfl
theorem wml_RL_48 : Cond.methodLink RL 48 yX6_walk ∈ TB := TB_of (tb_2 (List.mem_of_getElem? (i := 113) rfl)) rfl
theorem wim_X6_walk : Cond.instanceMethod yX6_walk ∈ TB := TB_of (tb_2 (List.mem_of_getElem? (i := 114) rfl)) rfl
theorem wse_X6_walk : Cond.selects RX6 yX6_walk yX6_walk ∈ TB := TB_of (tb_2 (List.mem_of_getElem? (i := 115) rfl)) rfl
theorem wcd_X6_walk : Cond.code yX6_walk cX6_walk 3 (some .int) ∈ TB := TB_of (tb_2 (List.mem_of_getElem? (i := 116) rfl)) rfl
theorem wml_RX6_121 : Cond.methodLink RX6 121 yX0_standsAt ∈ TB := TB_of (tb_2 (List.mem_of_getElem? (i := 117) rfl)) rfl
theorem wim_X0_standsAt : Cond.instanceMethod yX0_standsAt ∈ TB := TB_of (tb_2 (List.mem_of_getElem? (i := 118) rfl)) rfl
theorem wse_X0_standsAt : Cond.selects RX0 yX0_standsAt yX0_standsAt ∈ TB := TB_of (tb_2 (List.mem_of_getElem? (i := 119) rfl)) rfl
theorem wcd_X0_standsAt : Cond.code yX0_standsAt cX0_standsAt 3 (some .boolean) ∈ TB := TB_of (tb_2 (List.mem_of_getElem? (i := 120) rfl)) rfl
theorem wml_RX6_125 : Cond.methodLink RX6 125 yX0_walkOver ∈ TB := TB_of (tb_2 (List.mem_of_getElem? (i := 121) rfl)) rfl
theorem wim_X0_walkOver : Cond.instanceMethod yX0_walkOver ∈ TB := TB_of (tb_2 (List.mem_of_getElem? (i := 122) rfl)) rfl
theorem wse_X0_walkOver : Cond.selects RX0 yX0_walkOver yX0_walkOver ∈ TB := TB_of (tb_2 (List.mem_of_getElem? (i := 123) rfl)) rfl
theorem wcd_X0_walkOver : Cond.code yX0_walkOver cX0_walkOver 5 (some .int) ∈ TB := TB_of (tb_2 (List.mem_of_getElem? (i := 124) rfl)) rfl
theorem wml_RX0_135 : Cond.methodLink RX0 135 yX4_otherRoof ∈ TB := TB_of (tb_2 (List.mem_of_getElem? (i := 125) rfl)) rfl
theorem wst_X4_otherRoof : Cond.static yX4_otherRoof ∈ TB := TB_of (tb_2 (List.mem_of_getElem? (i := 126) rfl)) rfl
theorem wcd_X4_otherRoof : Cond.code yX4_otherRoof cX4_otherRoof 2 (some .int) ∈ TB := TB_of (tb_2 (List.mem_of_getElem? (i := 127) rfl)) rfl
theorem wml_RX0_138 : Cond.methodLink RX0 138 yX0_reasonNotToWalk ∈ TB := TB_of (tb_2 (List.mem_of_getElem? (i := 128) rfl)) rfl
theorem wim_X0_reasonNotToWalk : Cond.instanceMethod yX0_reasonNotToWalk ∈ TB := TB_of (tb_2 (List.mem_of_getElem? (i := 129) rfl)) rfl
theorem wse_X0_reasonNotToWalk : Cond.selects RX0 yX0_reasonNotToWalk yX0_reasonNotToWalk ∈ TB := TB_of (tb_2 (List.mem_of_getElem? (i := 130) rfl)) rfl
theorem wcd_X0_reasonNotToWalk : Cond.code yX0_reasonNotToWalk cX0_reasonNotToWalk 4 (some .int) ∈ TB := TB_of (tb_2 (List.mem_of_getElem? (i := 131) rfl)) rfl
theorem wml_RL_52 : Cond.methodLink RL 52 yX6_day ∈ TB := TB_of (tb_2 (List.mem_of_getElem? (i := 132) rfl)) rfl
theorem wim_X6_day : Cond.instanceMethod yX6_day ∈ TB := TB_of (tb_2 (List.mem_of_getElem? (i := 133) rfl)) rfl
theorem wse_X6_day : Cond.selects RX6 yX6_day yX6_day ∈ TB := TB_of (tb_2 (List.mem_of_getElem? (i := 134) rfl)) rfl
theorem wcd_X6_day : Cond.code yX6_day cX6_day 1 (some .int) ∈ TB := TB_of (tb_2 (List.mem_of_getElem? (i := 135) rfl)) rfl
theorem wml_RX6_128 : Cond.methodLink RX6 128 yX0_passDay ∈ TB := TB_of (tb_2 (List.mem_of_getElem? (i := 136) rfl)) rfl
theorem wim_X0_passDay : Cond.instanceMethod yX0_passDay ∈ TB := TB_of (tb_2 (List.mem_of_getElem? (i := 137) rfl)) rfl
theorem wse_X0_passDay : Cond.selects RX0 yX0_passDay yX0_passDay ∈ TB := TB_of (tb_2 (List.mem_of_getElem? (i := 138) rfl)) rfl
theorem wcd_X0_passDay : Cond.code yX0_passDay cX0_passDay 3 none ∈ TB := TB_of (tb_2 (List.mem_of_getElem? (i := 139) rfl)) rfl
theorem wml_RX0_141 : Cond.methodLink RX0 141 yX0_soilLine ∈ TB := TB_of (tb_2 (List.mem_of_getElem? (i := 140) rfl)) rfl
theorem wim_X0_soilLine : Cond.instanceMethod yX0_soilLine ∈ TB := TB_of (tb_2 (List.mem_of_getElem? (i := 141) rfl)) rfl
theorem wse_X0_soilLine : Cond.selects RX0 yX0_soilLine yX0_soilLine ∈ TB := TB_of (tb_2 (List.mem_of_getElem? (i := 142) rfl)) rfl
theorem wcd_X0_soilLine : Cond.code yX0_soilLine cX0_soilLine 4 none ∈ TB := TB_of (tb_2 (List.mem_of_getElem? (i := 143) rfl)) rfl
theorem wml_RX6_131 : Cond.methodLink RX6 131 yX0_cleanLines ∈ TB := TB_of (tb_2 (List.mem_of_getElem? (i := 144) rfl)) rfl
theorem wim_X0_cleanLines : Cond.instanceMethod yX0_cleanLines ∈ TB := TB_of (tb_2 (List.mem_of_getElem? (i := 145) rfl)) rfl
theorem wse_X0_cleanLines : Cond.selects RX0 yX0_cleanLines yX0_cleanLines ∈ TB := TB_of (tb_2 (List.mem_of_getElem? (i := 146) rfl)) rfl
theorem wcd_X0_cleanLines : Cond.code yX0_cleanLines cX0_cleanLines 3 (some .int) ∈ TB := TB_of (tb_2 (List.mem_of_getElem? (i := 147) rfl)) rfl
theorem wml_RL_57 : Cond.methodLink RL 57 yX6_append ∈ TB := TB_of (tb_2 (List.mem_of_getElem? (i := 148) rfl)) rfl
theorem wim_X6_append : Cond.instanceMethod yX6_append ∈ TB := TB_of (tb_2 (List.mem_of_getElem? (i := 149) rfl)) rfl
theorem wse_X6_append : Cond.selects RX6 yX6_append yX6_append ∈ TB := TB_of (tb_2 (List.mem_of_getElem? (i := 150) rfl)) rfl
theorem wcd_X6_append : Cond.code yX6_append cX6_append 2 (some .int) ∈ TB := TB_of (tb_2 (List.mem_of_getElem? (i := 151) rfl)) rfl
theorem wml_RX6_138 : Cond.methodLink RX6 138 yX3_add ∈ TB := TB_of (tb_2 (List.mem_of_getElem? (i := 152) rfl)) rfl
theorem wim_X3_add : Cond.instanceMethod yX3_add ∈ TB := TB_of (tb_2 (List.mem_of_getElem? (i := 153) rfl)) rfl
theorem wse_X3_add : Cond.selects RX3 yX3_add yX3_add ∈ TB := TB_of (tb_2 (List.mem_of_getElem? (i := 154) rfl)) rfl
theorem wcd_X3_add : Cond.code yX3_add cX3_add 2 none ∈ TB := TB_of (tb_2 (List.mem_of_getElem? (i := 155) rfl)) rfl
theorem wml_RL_61 : Cond.methodLink RL 61 yX6_clear ∈ TB := TB_of (tb_2 (List.mem_of_getElem? (i := 157) rfl)) rfl
theorem wim_X6_clear : Cond.instanceMethod yX6_clear ∈ TB := TB_of (tb_2 (List.mem_of_getElem? (i := 158) rfl)) rfl
theorem wse_X6_clear : Cond.selects RX6 yX6_clear yX6_clear ∈ TB := TB_of (tb_2 (List.mem_of_getElem? (i := 159) rfl)) rfl
theorem wcd_X6_clear : Cond.code yX6_clear cX6_clear 2 (some .int) ∈ TB := TB_of (tb_2 (List.mem_of_getElem? (i := 160) rfl)) rfl
theorem wml_RL_65 : Cond.methodLink RL 65 yX6_fault ∈ TB := TB_of (tb_2 (List.mem_of_getElem? (i := 161) rfl)) rfl
theorem wim_X6_fault : Cond.instanceMethod yX6_fault ∈ TB := TB_of (tb_2 (List.mem_of_getElem? (i := 162) rfl)) rfl
theorem wse_X6_fault : Cond.selects RX6 yX6_fault yX6_fault ∈ TB := TB_of (tb_2 (List.mem_of_getElem? (i := 163) rfl)) rfl
theorem wcd_X6_fault : Cond.code yX6_fault cX6_fault 1 (some .int) ∈ TB := TB_of (tb_2 (List.mem_of_getElem? (i := 164) rfl)) rfl
theorem wml_RX6_142 : Cond.methodLink RX6 142 yX2_firstFault ∈ TB := TB_of (tb_2 (List.mem_of_getElem? (i := 165) rfl)) rfl
theorem wim_X2_firstFault : Cond.instanceMethod yX2_firstFault ∈ TB := TB_of (tb_2 (List.mem_of_getElem? (i := 166) rfl)) rfl
theorem wse_X2_firstFault : Cond.selects RX2 yX2_firstFault yX2_firstFault ∈ TB := TB_of (tb_2 (List.mem_of_getElem? (i := 167) rfl)) rfl
theorem wcd_X2_firstFault : Cond.code yX2_firstFault cX2_firstFault 2 (some .int) ∈ TB := TB_of (tb_2 (List.mem_of_getElem? (i := 168) rfl)) rfl
theorem wml_RX2_19 : Cond.methodLink RX2 19 yX2_rewind ∈ TB := TB_of (tb_2 (List.mem_of_getElem? (i := 169) rfl)) rfl
theorem wim_X2_rewind : Cond.instanceMethod yX2_rewind ∈ TB := TB_of (tb_2 (List.mem_of_getElem? (i := 170) rfl)) rfl
theorem wse_X2_rewind : Cond.selects RX2 yX2_rewind yX2_rewind ∈ TB := TB_of (tb_2 (List.mem_of_getElem? (i := 171) rfl)) rfl
theorem wcd_X2_rewind : Cond.code yX2_rewind cX2_rewind 1 none ∈ TB := TB_of (tb_2 (List.mem_of_getElem? (i := 172) rfl)) rfl
theorem wml_RX2_22 : Cond.methodLink RX2 22 yX2_readOrder ∈ TB := TB_of (tb_2 (List.mem_of_getElem? (i := 173) rfl)) rfl
theorem wim_X2_readOrder : Cond.instanceMethod yX2_readOrder ∈ TB := TB_of (tb_2 (List.mem_of_getElem? (i := 175) rfl)) rfl
theorem wcd_X2_readOrder : Cond.code yX2_readOrder cX2_readOrder 1 (some .boolean) ∈ TB := TB_of (tb_2 (List.mem_of_getElem? (i := 176) rfl)) rfl
theorem wml_RX2_38 : Cond.methodLink RX2 38 yX3_signAt ∈ TB := TB_of (tb_2 (List.mem_of_getElem? (i := 177) rfl)) rfl
theorem wim_X3_signAt : Cond.instanceMethod yX3_signAt ∈ TB := TB_of (tb_2 (List.mem_of_getElem? (i := 178) rfl)) rfl
theorem wse_X3_signAt : Cond.selects RX3 yX3_signAt yX3_signAt ∈ TB := TB_of (tb_2 (List.mem_of_getElem? (i := 179) rfl)) rfl
theorem wcd_X3_signAt : Cond.code yX3_signAt cX3_signAt 2 (some .char) ∈ TB := TB_of (tb_2 (List.mem_of_getElem? (i := 180) rfl)) rfl
theorem wml_RX2_46 : Cond.methodLink RX2 46 yX2_readOwner ∈ TB := TB_of (tb_2 (List.mem_of_getElem? (i := 181) rfl)) rfl
theorem wim_X2_readOwner : Cond.instanceMethod yX2_readOwner ∈ TB := TB_of (tb_2 (List.mem_of_getElem? (i := 183) rfl)) rfl
theorem wcd_X2_readOwner : Cond.code yX2_readOwner cX2_readOwner 1 (some .boolean) ∈ TB := TB_of (tb_2 (List.mem_of_getElem? (i := 184) rfl)) rfl
theorem wml_RX2_53 : Cond.methodLink RX2 53 yX2_digitAt ∈ TB := TB_of (tb_2 (List.mem_of_getElem? (i := 185) rfl)) rfl
theorem wim_X2_digitAt : Cond.instanceMethod yX2_digitAt ∈ TB := TB_of (tb_2 (List.mem_of_getElem? (i := 187) rfl)) rfl
theorem wcd_X2_digitAt : Cond.code yX2_digitAt cX2_digitAt 3 (some .int) ∈ TB := TB_of (tb_2 (List.mem_of_getElem? (i := 188) rfl)) rfl
theorem wml_RX2_31 : Cond.methodLink RX2 31 yX2_readSign ∈ TB := TB_of (tb_2 (List.mem_of_getElem? (i := 190) rfl)) rfl
theorem wim_X2_readSign : Cond.instanceMethod yX2_readSign ∈ TB := TB_of (tb_2 (List.mem_of_getElem? (i := 192) rfl)) rfl
theorem wcd_X2_readSign : Cond.code yX2_readSign cX2_readSign 2 (some .boolean) ∈ TB := TB_of (tb_2 (List.mem_of_getElem? (i := 193) rfl)) rfl
theorem wml_RX2_49 : Cond.methodLink RX2 49 yX2_readNumber ∈ TB := TB_of (tb_2 (List.mem_of_getElem? (i := 194) rfl)) rfl
theorem wim_X2_readNumber : Cond.instanceMethod yX2_readNumber ∈ TB := TB_of (tb_2 (List.mem_of_getElem? (i := 196) rfl)) rfl
theorem wcd_X2_readNumber : Cond.code yX2_readNumber cX2_readNumber 4 (some .boolean) ∈ TB := TB_of (tb_2 (List.mem_of_getElem? (i := 197) rfl)) rfl
theorem wml_RX2_64 : Cond.methodLink RX2 64 yX2_isAllowed ∈ TB := TB_of (tb_2 (List.mem_of_getElem? (i := 198) rfl)) rfl
theorem wst_X2_isAllowed : Cond.static yX2_isAllowed ∈ TB := TB_of (tb_2 (List.mem_of_getElem? (i := 199) rfl)) rfl
theorem wcd_X2_isAllowed : Cond.code yX2_isAllowed cX2_isAllowed 2 (some .boolean) ∈ TB := TB_of (tb_2 (List.mem_of_getElem? (i := 200) rfl)) rfl
theorem wml_RX2_71 : Cond.methodLink RX2 71 yX4_isGangway ∈ TB := TB_of (tb_2 (List.mem_of_getElem? (i := 201) rfl)) rfl
theorem wml_RL_69 : Cond.methodLink RL 69 yX6_run ∈ TB := TB_of (tb_2 (List.mem_of_getElem? (i := 203) rfl)) rfl
theorem wim_X6_run : Cond.instanceMethod yX6_run ∈ TB := TB_of (tb_2 (List.mem_of_getElem? (i := 204) rfl)) rfl
theorem wse_X6_run : Cond.selects RX6 yX6_run yX6_run ∈ TB := TB_of (tb_2 (List.mem_of_getElem? (i := 205) rfl)) rfl
theorem wcd_X6_run : Cond.code yX6_run cX6_run 4 (some .int) ∈ TB := TB_of (tb_2 (List.mem_of_getElem? (i := 206) rfl)) rfl
theorem wml_RX6_149 : Cond.methodLink RX6 149 yX2_rewind ∈ TB := TB_of (tb_2 (List.mem_of_getElem? (i := 207) rfl)) rfl
theorem wml_RX6_152 : Cond.methodLink RX6 152 yX2_readNext ∈ TB := TB_of (tb_2 (List.mem_of_getElem? (i := 208) rfl)) rfl
theorem wim_X2_readNext : Cond.instanceMethod yX2_readNext ∈ TB := TB_of (tb_2 (List.mem_of_getElem? (i := 209) rfl)) rfl
theorem wse_X2_readNext : Cond.selects RX2 yX2_readNext yX2_readNext ∈ TB := TB_of (tb_2 (List.mem_of_getElem? (i := 210) rfl)) rfl
theorem wcd_X2_readNext : Cond.code yX2_readNext cX2_readNext 2 (some .boolean) ∈ TB := TB_of (tb_2 (List.mem_of_getElem? (i := 211) rfl)) rfl
theorem wml_RX6_156 : Cond.methodLink RX6 156 yX6_carryOutOrder ∈ TB := TB_of (tb_2 (List.mem_of_getElem? (i := 212) rfl)) rfl
theorem wim_X6_carryOutOrder : Cond.instanceMethod yX6_carryOutOrder ∈ TB := TB_of (tb_2 (List.mem_of_getElem? (i := 214) rfl)) rfl
theorem wcd_X6_carryOutOrder : Cond.code yX6_carryOutOrder cX6_carryOutOrder 1 (some .int) ∈ TB := TB_of (tb_2 (List.mem_of_getElem? (i := 215) rfl)) rfl
theorem wml_RX6_289 : Cond.methodLink RX6 289 yX6_causeIn ∈ TB := TB_of (tb_2 (List.mem_of_getElem? (i := 216) rfl)) rfl
theorem wst_X6_causeIn : Cond.static yX6_causeIn ∈ TB := TB_of (tb_2 (List.mem_of_getElem? (i := 217) rfl)) rfl
theorem wcd_X6_causeIn : Cond.code yX6_causeIn cX6_causeIn 1 (some .int) ∈ TB := TB_of (tb_2 (List.mem_of_getElem? (i := 218) rfl)) rfl
theorem wml_RX6_159 : Cond.methodLink RX6 159 yX6_keepStop ∈ TB := TB_of (tb_2 (List.mem_of_getElem? (i := 219) rfl)) rfl
theorem wim_X6_keepStop : Cond.instanceMethod yX6_keepStop ∈ TB := TB_of (tb_2 (List.mem_of_getElem? (i := 221) rfl)) rfl
theorem wcd_X6_keepStop : Cond.code yX6_keepStop cX6_keepStop 3 none ∈ TB := TB_of (tb_2 (List.mem_of_getElem? (i := 222) rfl)) rfl
theorem wml_RL_73 : Cond.methodLink RL 73 yX6_why ∈ TB := TB_of (tb_2 (List.mem_of_getElem? (i := 223) rfl)) rfl
theorem wim_X6_why : Cond.instanceMethod yX6_why ∈ TB := TB_of (tb_2 (List.mem_of_getElem? (i := 224) rfl)) rfl
theorem wse_X6_why : Cond.selects RX6 yX6_why yX6_why ∈ TB := TB_of (tb_2 (List.mem_of_getElem? (i := 225) rfl)) rfl
theorem wcd_X6_why : Cond.code yX6_why cX6_why 2 (some .int) ∈ TB := TB_of (tb_2 (List.mem_of_getElem? (i := 226) rfl)) rfl
theorem wml_RL_77 : Cond.methodLink RL 77 yX6_roof ∈ TB := TB_of (tb_2 (List.mem_of_getElem? (i := 227) rfl)) rfl
theorem wim_X6_roof : Cond.instanceMethod yX6_roof ∈ TB := TB_of (tb_2 (List.mem_of_getElem? (i := 228) rfl)) rfl
theorem wse_X6_roof : Cond.selects RX6 yX6_roof yX6_roof ∈ TB := TB_of (tb_2 (List.mem_of_getElem? (i := 229) rfl)) rfl
theorem wcd_X6_roof : Cond.code yX6_roof cX6_roof 3 (some .int) ∈ TB := TB_of (tb_2 (List.mem_of_getElem? (i := 230) rfl)) rfl
theorem wml_RX6_174 : Cond.methodLink RX6 174 yX6_bitOf ∈ TB := TB_of (tb_2 (List.mem_of_getElem? (i := 231) rfl)) rfl
theorem wst_X6_bitOf : Cond.static yX6_bitOf ∈ TB := TB_of (tb_2 (List.mem_of_getElem? (i := 232) rfl)) rfl
theorem wcd_X6_bitOf : Cond.code yX6_bitOf cX6_bitOf 2 (some .int) ∈ TB := TB_of (tb_2 (List.mem_of_getElem? (i := 233) rfl)) rfl
theorem wml_RX6_177 : Cond.methodLink RX6 177 yX0_chimneysSmoking ∈ TB := TB_of (tb_2 (List.mem_of_getElem? (i := 234) rfl)) rfl
theorem wim_X0_chimneysSmoking : Cond.instanceMethod yX0_chimneysSmoking ∈ TB := TB_of (tb_2 (List.mem_of_getElem? (i := 235) rfl)) rfl
theorem wse_X0_chimneysSmoking : Cond.selects RX0 yX0_chimneysSmoking yX0_chimneysSmoking ∈ TB := TB_of (tb_2 (List.mem_of_getElem? (i := 236) rfl)) rfl
theorem wcd_X0_chimneysSmoking : Cond.code yX0_chimneysSmoking cX0_chimneysSmoking 4 (some .int) ∈ TB := TB_of (tb_2 (List.mem_of_getElem? (i := 237) rfl)) rfl
theorem wml_RX6_180 : Cond.methodLink RX6 180 yX0_ownersOn ∈ TB := TB_of (tb_2 (List.mem_of_getElem? (i := 238) rfl)) rfl
theorem wim_X0_ownersOn : Cond.instanceMethod yX0_ownersOn ∈ TB := TB_of (tb_2 (List.mem_of_getElem? (i := 239) rfl)) rfl
theorem wse_X0_ownersOn : Cond.selects RX0 yX0_ownersOn yX0_ownersOn ∈ TB := TB_of (tb_3 (List.mem_of_getElem? (i := 0) rfl)) rfl
theorem wcd_X0_ownersOn : Cond.code yX0_ownersOn cX0_ownersOn 4 (some .int) ∈ TB := TB_of (tb_3 (List.mem_of_getElem? (i := 1) rfl)) rfl
theorem wml_RX6_183 : Cond.methodLink RX6 183 yX0_standingGangways ∈ TB := TB_of (tb_3 (List.mem_of_getElem? (i := 2) rfl)) rfl
theorem wim_X0_standingGangways : Cond.instanceMethod yX0_standingGangways ∈ TB := TB_of (tb_3 (List.mem_of_getElem? (i := 3) rfl)) rfl
theorem wse_X0_standingGangways : Cond.selects RX0 yX0_standingGangways yX0_standingGangways ∈ TB := TB_of (tb_3 (List.mem_of_getElem? (i := 4) rfl)) rfl
theorem wcd_X0_standingGangways : Cond.code yX0_standingGangways cX0_standingGangways 3 (some .int) ∈ TB := TB_of (tb_3 (List.mem_of_getElem? (i := 5) rfl)) rfl
theorem wml_RX6_186 : Cond.methodLink RX6 186 yX4_gangwaysOf ∈ TB := TB_of (tb_3 (List.mem_of_getElem? (i := 6) rfl)) rfl
theorem wst_X4_gangwaysOf : Cond.static yX4_gangwaysOf ∈ TB := TB_of (tb_3 (List.mem_of_getElem? (i := 7) rfl)) rfl
theorem wcd_X4_gangwaysOf : Cond.code yX4_gangwaysOf cX4_gangwaysOf 3 (some .int) ∈ TB := TB_of (tb_3 (List.mem_of_getElem? (i := 8) rfl)) rfl
theorem wml_RX4_22 : Cond.methodLink RX4 22 yX4_isGangway ∈ TB := TB_of (tb_3 (List.mem_of_getElem? (i := 9) rfl)) rfl
theorem wml_RX4_26 : Cond.methodLink RX4 26 yX4_roofsOf ∈ TB := TB_of (tb_3 (List.mem_of_getElem? (i := 10) rfl)) rfl
theorem wml_RX6_189 : Cond.methodLink RX6 189 yX0_allLines ∈ TB := TB_of (tb_3 (List.mem_of_getElem? (i := 12) rfl)) rfl
theorem wml_RX6_192 : Cond.methodLink RX6 192 yX5_roofsFrom ∈ TB := TB_of (tb_3 (List.mem_of_getElem? (i := 13) rfl)) rfl
theorem wim_X5_roofsFrom : Cond.instanceMethod yX5_roofsFrom ∈ TB := TB_of (tb_3 (List.mem_of_getElem? (i := 14) rfl)) rfl
theorem wse_X5_roofsFrom : Cond.selects RX5 yX5_roofsFrom yX5_roofsFrom ∈ TB := TB_of (tb_3 (List.mem_of_getElem? (i := 15) rfl)) rfl
theorem wcd_X5_roofsFrom : Cond.code yX5_roofsFrom cX5_roofsFrom 7 (some .int) ∈ TB := TB_of (tb_3 (List.mem_of_getElem? (i := 16) rfl)) rfl
theorem wml_RX5_64 : Cond.methodLink RX5 64 yX4_roofsOf ∈ TB := TB_of (tb_3 (List.mem_of_getElem? (i := 17) rfl)) rfl
theorem wml_RX5_67 : Cond.methodLink RX5 67 yX0_isThere ∈ TB := TB_of (tb_3 (List.mem_of_getElem? (i := 18) rfl)) rfl
theorem wml_RL_81 : Cond.methodLink RL 81 yX6_gangway ∈ TB := TB_of (tb_3 (List.mem_of_getElem? (i := 19) rfl)) rfl
theorem wim_X6_gangway : Cond.instanceMethod yX6_gangway ∈ TB := TB_of (tb_3 (List.mem_of_getElem? (i := 20) rfl)) rfl
theorem wse_X6_gangway : Cond.selects RX6 yX6_gangway yX6_gangway ∈ TB := TB_of (tb_3 (List.mem_of_getElem? (i := 21) rfl)) rfl
theorem wcd_X6_gangway : Cond.code yX6_gangway cX6_gangway 3 (some .int) ∈ TB := TB_of (tb_3 (List.mem_of_getElem? (i := 22) rfl)) rfl
theorem wml_RX6_196 : Cond.methodLink RX6 196 yX4_lesserRoof ∈ TB := TB_of (tb_3 (List.mem_of_getElem? (i := 23) rfl)) rfl
theorem wml_RX6_199 : Cond.methodLink RX6 199 yX4_greaterRoof ∈ TB := TB_of (tb_3 (List.mem_of_getElem? (i := 24) rfl)) rfl
theorem wml_RX6_202 : Cond.methodLink RX6 202 yX0_hasLine ∈ TB := TB_of (tb_3 (List.mem_of_getElem? (i := 25) rfl)) rfl
theorem wml_RX6_214 : Cond.methodLink RX6 214 yX4_roofsOf ∈ TB := TB_of (tb_3 (List.mem_of_getElem? (i := 26) rfl)) rfl
theorem wml_RL_85 : Cond.methodLink RL 85 yX6_ownerOf ∈ TB := TB_of (tb_3 (List.mem_of_getElem? (i := 27) rfl)) rfl
theorem wim_X6_ownerOf : Cond.instanceMethod yX6_ownerOf ∈ TB := TB_of (tb_3 (List.mem_of_getElem? (i := 28) rfl)) rfl
theorem wse_X6_ownerOf : Cond.selects RX6 yX6_ownerOf yX6_ownerOf ∈ TB := TB_of (tb_3 (List.mem_of_getElem? (i := 29) rfl)) rfl
theorem wcd_X6_ownerOf : Cond.code yX6_ownerOf cX6_ownerOf 3 (some .int) ∈ TB := TB_of (tb_3 (List.mem_of_getElem? (i := 30) rfl)) rfl
theorem wml_RX6_223 : Cond.methodLink RX6 223 yX0_linesOf ∈ TB := TB_of (tb_3 (List.mem_of_getElem? (i := 31) rfl)) rfl
theorem wim_X0_linesOf : Cond.instanceMethod yX0_linesOf ∈ TB := TB_of (tb_3 (List.mem_of_getElem? (i := 32) rfl)) rfl
theorem wse_X0_linesOf : Cond.selects RX0 yX0_linesOf yX0_linesOf ∈ TB := TB_of (tb_3 (List.mem_of_getElem? (i := 33) rfl)) rfl
theorem wcd_X0_linesOf : Cond.code yX0_linesOf cX0_linesOf 4 (some .int) ∈ TB := TB_of (tb_3 (List.mem_of_getElem? (i := 34) rfl)) rfl
theorem wml_RX6_226 : Cond.methodLink RX6 226 yX0_walksOpenTo ∈ TB := TB_of (tb_3 (List.mem_of_getElem? (i := 35) rfl)) rfl
theorem wim_X0_walksOpenTo : Cond.instanceMethod yX0_walksOpenTo ∈ TB := TB_of (tb_3 (List.mem_of_getElem? (i := 36) rfl)) rfl
theorem wse_X0_walksOpenTo : Cond.selects RX0 yX0_walksOpenTo yX0_walksOpenTo ∈ TB := TB_of (tb_3 (List.mem_of_getElem? (i := 37) rfl)) rfl
theorem wcd_X0_walksOpenTo : Cond.code yX0_walksOpenTo cX0_walksOpenTo 5 (some .int) ∈ TB := TB_of (tb_3 (List.mem_of_getElem? (i := 38) rfl)) rfl
theorem wml_RX0_145 : Cond.methodLink RX0 145 yX0_standsAt ∈ TB := TB_of (tb_3 (List.mem_of_getElem? (i := 39) rfl)) rfl
theorem wml_RX6_232 : Cond.methodLink RX6 232 yX0_hangingsOpenTo ∈ TB := TB_of (tb_3 (List.mem_of_getElem? (i := 40) rfl)) rfl
theorem wim_X0_hangingsOpenTo : Cond.instanceMethod yX0_hangingsOpenTo ∈ TB := TB_of (tb_3 (List.mem_of_getElem? (i := 41) rfl)) rfl
theorem wse_X0_hangingsOpenTo : Cond.selects RX0 yX0_hangingsOpenTo yX0_hangingsOpenTo ∈ TB := TB_of (tb_3 (List.mem_of_getElem? (i := 42) rfl)) rfl
theorem wcd_X0_hangingsOpenTo : Cond.code yX0_hangingsOpenTo cX0_hangingsOpenTo 4 (some .int) ∈ TB := TB_of (tb_3 (List.mem_of_getElem? (i := 43) rfl)) rfl
theorem wml_RL_89 : Cond.methodLink RL 89 yX6_whyNotHang ∈ TB := TB_of (tb_3 (List.mem_of_getElem? (i := 44) rfl)) rfl
theorem wim_X6_whyNotHang : Cond.instanceMethod yX6_whyNotHang ∈ TB := TB_of (tb_3 (List.mem_of_getElem? (i := 45) rfl)) rfl
theorem wse_X6_whyNotHang : Cond.selects RX6 yX6_whyNotHang yX6_whyNotHang ∈ TB := TB_of (tb_3 (List.mem_of_getElem? (i := 46) rfl)) rfl
theorem wcd_X6_whyNotHang : Cond.code yX6_whyNotHang cX6_whyNotHang 3 (some .int) ∈ TB := TB_of (tb_3 (List.mem_of_getElem? (i := 47) rfl)) rfl
theorem wml_RX6_235 : Cond.methodLink RX6 235 yX0_reasonNotToHang ∈ TB := TB_of (tb_3 (List.mem_of_getElem? (i := 48) rfl)) rfl
theorem wml_RL_93 : Cond.methodLink RL 93 yX6_strongest ∈ TB := TB_of (tb_3 (List.mem_of_getElem? (i := 49) rfl)) rfl
theorem wim_X6_strongest : Cond.instanceMethod yX6_strongest ∈ TB := TB_of (tb_3 (List.mem_of_getElem? (i := 50) rfl)) rfl
theorem wse_X6_strongest : Cond.selects RX6 yX6_strongest yX6_strongest ∈ TB := TB_of (tb_3 (List.mem_of_getElem? (i := 51) rfl)) rfl
theorem wcd_X6_strongest : Cond.code yX6_strongest cX6_strongest 4 (some .int) ∈ TB := TB_of (tb_3 (List.mem_of_getElem? (i := 52) rfl)) rfl
theorem wml_RX6_238 : Cond.methodLink RX6 238 yX5_strongestByJoining ∈ TB := TB_of (tb_3 (List.mem_of_getElem? (i := 53) rfl)) rfl
theorem wim_X5_strongestByJoining : Cond.instanceMethod yX5_strongestByJoining ∈ TB := TB_of (tb_3 (List.mem_of_getElem? (i := 54) rfl)) rfl
theorem wse_X5_strongestByJoining : Cond.selects RX5 yX5_strongestByJoining yX5_strongestByJoining ∈ TB := TB_of (tb_3 (List.mem_of_getElem? (i := 55) rfl)) rfl
theorem wcd_X5_strongestByJoining : Cond.code yX5_strongestByJoining cX5_strongestByJoining 5 (some .int) ∈ TB := TB_of (tb_3 (List.mem_of_getElem? (i := 56) rfl)) rfl
theorem wml_RX5_18 : Cond.methodLink RX5 18 yX5_joinOver ∈ TB := TB_of (tb_3 (List.mem_of_getElem? (i := 57) rfl)) rfl
theorem wim_X5_joinOver : Cond.instanceMethod yX5_joinOver ∈ TB := TB_of (tb_3 (List.mem_of_getElem? (i := 59) rfl)) rfl
theorem wcd_X5_joinOver : Cond.code yX5_joinOver cX5_joinOver 4 none ∈ TB := TB_of (tb_3 (List.mem_of_getElem? (i := 60) rfl)) rfl
theorem wml_RX5_22 : Cond.methodLink RX5 22 yX4_isGangway ∈ TB := TB_of (tb_3 (List.mem_of_getElem? (i := 61) rfl)) rfl
theorem wml_RX5_33 : Cond.methodLink RX5 33 yX4_greaterRoof ∈ TB := TB_of (tb_3 (List.mem_of_getElem? (i := 62) rfl)) rfl
theorem wml_RX5_37 : Cond.methodLink RX5 37 yX4_lesserRoof ∈ TB := TB_of (tb_3 (List.mem_of_getElem? (i := 63) rfl)) rfl
theorem wml_RX5_40 : Cond.methodLink RX5 40 yX5_rename ∈ TB := TB_of (tb_3 (List.mem_of_getElem? (i := 64) rfl)) rfl
theorem wim_X5_rename : Cond.instanceMethod yX5_rename ∈ TB := TB_of (tb_3 (List.mem_of_getElem? (i := 66) rfl)) rfl
theorem wcd_X5_rename : Cond.code yX5_rename cX5_rename 4 none ∈ TB := TB_of (tb_3 (List.mem_of_getElem? (i := 67) rfl)) rfl
theorem wml_RX6_242 : Cond.methodLink RX6 242 yX5_strongestBySpreading ∈ TB := TB_of (tb_3 (List.mem_of_getElem? (i := 68) rfl)) rfl
theorem wim_X5_strongestBySpreading : Cond.instanceMethod yX5_strongestBySpreading ∈ TB := TB_of (tb_3 (List.mem_of_getElem? (i := 69) rfl)) rfl
theorem wse_X5_strongestBySpreading : Cond.selects RX5 yX5_strongestBySpreading yX5_strongestBySpreading ∈ TB := TB_of (tb_3 (List.mem_of_getElem? (i := 70) rfl)) rfl
theorem wcd_X5_strongestBySpreading : Cond.code yX5_strongestBySpreading cX5_strongestBySpreading 6 (some .int) ∈ TB := TB_of (tb_3 (List.mem_of_getElem? (i := 71) rfl)) rfl
theorem wml_RX5_44 : Cond.methodLink RX5 44 yJ7_fill_53178 ∈ TB := TB_of (tb_3 (List.mem_of_getElem? (i := 72) rfl)) rfl
theorem wml_RX5_50 : Cond.methodLink RX5 50 yX5_spread ∈ TB := TB_of (tb_3 (List.mem_of_getElem? (i := 73) rfl)) rfl
theorem wim_X5_spread : Cond.instanceMethod yX5_spread ∈ TB := TB_of (tb_3 (List.mem_of_getElem? (i := 75) rfl)) rfl
theorem wcd_X5_spread : Cond.code yX5_spread cX5_spread 8 (some .boolean) ∈ TB := TB_of (tb_3 (List.mem_of_getElem? (i := 76) rfl)) rfl
theorem wml_RX5_54 : Cond.methodLink RX5 54 yJ9_min_7cf53 ∈ TB := TB_of (tb_3 (List.mem_of_getElem? (i := 77) rfl)) rfl
theorem wml_RX5_60 : Cond.methodLink RX5 60 yX5_raise ∈ TB := TB_of (tb_3 (List.mem_of_getElem? (i := 78) rfl)) rfl
theorem wim_X5_raise : Cond.instanceMethod yX5_raise ∈ TB := TB_of (tb_3 (List.mem_of_getElem? (i := 80) rfl)) rfl
theorem wcd_X5_raise : Cond.code yX5_raise cX5_raise 3 (some .boolean) ∈ TB := TB_of (tb_3 (List.mem_of_getElem? (i := 81) rfl)) rfl
theorem wml_RL_98 : Cond.methodLink RL 98 yX6_steps ∈ TB := TB_of (tb_3 (List.mem_of_getElem? (i := 82) rfl)) rfl
theorem wim_X6_steps : Cond.instanceMethod yX6_steps ∈ TB := TB_of (tb_3 (List.mem_of_getElem? (i := 83) rfl)) rfl
theorem wse_X6_steps : Cond.selects RX6 yX6_steps yX6_steps ∈ TB := TB_of (tb_3 (List.mem_of_getElem? (i := 84) rfl)) rfl
theorem wcd_X6_steps : Cond.code yX6_steps cX6_steps 3 (some .int) ∈ TB := TB_of (tb_3 (List.mem_of_getElem? (i := 85) rfl)) rfl
theorem wml_RX6_245 : Cond.methodLink RX6 245 yX5_fewestWalks ∈ TB := TB_of (tb_3 (List.mem_of_getElem? (i := 86) rfl)) rfl
theorem wim_X5_fewestWalks : Cond.instanceMethod yX5_fewestWalks ∈ TB := TB_of (tb_3 (List.mem_of_getElem? (i := 87) rfl)) rfl
theorem wse_X5_fewestWalks : Cond.selects RX5 yX5_fewestWalks yX5_fewestWalks ∈ TB := TB_of (tb_3 (List.mem_of_getElem? (i := 88) rfl)) rfl
theorem wcd_X5_fewestWalks : Cond.code yX5_fewestWalks cX5_fewestWalks 6 (some .int) ∈ TB := TB_of (tb_3 (List.mem_of_getElem? (i := 89) rfl)) rfl
theorem wml_RX5_76 : Cond.methodLink RX5 76 yX5_oneWalkFurther ∈ TB := TB_of (tb_3 (List.mem_of_getElem? (i := 91) rfl)) rfl
theorem wim_X5_oneWalkFurther : Cond.instanceMethod yX5_oneWalkFurther ∈ TB := TB_of (tb_3 (List.mem_of_getElem? (i := 93) rfl)) rfl
theorem wcd_X5_oneWalkFurther : Cond.code yX5_oneWalkFurther cX5_oneWalkFurther 8 (some .int) ∈ TB := TB_of (tb_3 (List.mem_of_getElem? (i := 94) rfl)) rfl
theorem wml_RX5_80 : Cond.methodLink RX5 80 yX0_reasonNotToWalk ∈ TB := TB_of (tb_3 (List.mem_of_getElem? (i := 95) rfl)) rfl
theorem wml_RL_102 : Cond.methodLink RL 102 yX6_count ∈ TB := TB_of (tb_3 (List.mem_of_getElem? (i := 96) rfl)) rfl
theorem wim_X6_count : Cond.instanceMethod yX6_count ∈ TB := TB_of (tb_3 (List.mem_of_getElem? (i := 97) rfl)) rfl
theorem wse_X6_count : Cond.selects RX6 yX6_count yX6_count ∈ TB := TB_of (tb_3 (List.mem_of_getElem? (i := 98) rfl)) rfl
theorem wcd_X6_count : Cond.code yX6_count cX6_count 2 (some .int) ∈ TB := TB_of (tb_3 (List.mem_of_getElem? (i := 99) rfl)) rfl
theorem wml_RX6_251 : Cond.methodLink RX6 251 yX0_numberOfNow ∈ TB := TB_of (tb_3 (List.mem_of_getElem? (i := 100) rfl)) rfl
theorem wim_X0_numberOfNow : Cond.instanceMethod yX0_numberOfNow ∈ TB := TB_of (tb_3 (List.mem_of_getElem? (i := 101) rfl)) rfl
theorem wse_X0_numberOfNow : Cond.selects RX0 yX0_numberOfNow yX0_numberOfNow ∈ TB := TB_of (tb_3 (List.mem_of_getElem? (i := 102) rfl)) rfl
theorem wcd_X0_numberOfNow : Cond.code yX0_numberOfNow cX0_numberOfNow 2 (some .int) ∈ TB := TB_of (tb_3 (List.mem_of_getElem? (i := 103) rfl)) rfl
theorem wml_RX0_148 : Cond.methodLink RX0 148 yX0_cleanLines ∈ TB := TB_of (tb_3 (List.mem_of_getElem? (i := 104) rfl)) rfl
theorem wml_RX0_151 : Cond.methodLink RX0 151 yX0_sumOverLines ∈ TB := TB_of (tb_3 (List.mem_of_getElem? (i := 105) rfl)) rfl
theorem wim_X0_sumOverLines : Cond.instanceMethod yX0_sumOverLines ∈ TB := TB_of (tb_3 (List.mem_of_getElem? (i := 106) rfl)) rfl
theorem wse_X0_sumOverLines : Cond.selects RX0 yX0_sumOverLines yX0_sumOverLines ∈ TB := TB_of (tb_3 (List.mem_of_getElem? (i := 107) rfl)) rfl
theorem wcd_X0_sumOverLines : Cond.code yX0_sumOverLines cX0_sumOverLines 4 (some .int) ∈ TB := TB_of (tb_3 (List.mem_of_getElem? (i := 108) rfl)) rfl
theorem wml_RX0_155 : Cond.methodLink RX0 155 yX0_linesSmokedBy ∈ TB := TB_of (tb_3 (List.mem_of_getElem? (i := 109) rfl)) rfl
theorem wim_X0_linesSmokedBy : Cond.instanceMethod yX0_linesSmokedBy ∈ TB := TB_of (tb_3 (List.mem_of_getElem? (i := 110) rfl)) rfl
theorem wse_X0_linesSmokedBy : Cond.selects RX0 yX0_linesSmokedBy yX0_linesSmokedBy ∈ TB := TB_of (tb_3 (List.mem_of_getElem? (i := 111) rfl)) rfl
theorem wcd_X0_linesSmokedBy : Cond.code yX0_linesSmokedBy cX0_linesSmokedBy 5 (some .int) ∈ TB := TB_of (tb_3 (List.mem_of_getElem? (i := 112) rfl)) rfl
theorem wml_RX6_254 : Cond.methodLink RX6 254 yX0_numberSoFar ∈ TB := TB_of (tb_3 (List.mem_of_getElem? (i := 113) rfl)) rfl
theorem wim_X0_numberSoFar : Cond.instanceMethod yX0_numberSoFar ∈ TB := TB_of (tb_3 (List.mem_of_getElem? (i := 114) rfl)) rfl
theorem wse_X0_numberSoFar : Cond.selects RX0 yX0_numberSoFar yX0_numberSoFar ∈ TB := TB_of (tb_3 (List.mem_of_getElem? (i := 115) rfl)) rfl
theorem wcd_X0_numberSoFar : Cond.code yX0_numberSoFar cX0_numberSoFar 2 (some .int) ∈ TB := TB_of (tb_3 (List.mem_of_getElem? (i := 116) rfl)) rfl
theorem wml_RL_106 : Cond.methodLink RL 106 yX6_cleanness ∈ TB := TB_of (tb_3 (List.mem_of_getElem? (i := 117) rfl)) rfl
theorem wim_X6_cleanness : Cond.instanceMethod yX6_cleanness ∈ TB := TB_of (tb_3 (List.mem_of_getElem? (i := 118) rfl)) rfl
theorem wse_X6_cleanness : Cond.selects RX6 yX6_cleanness yX6_cleanness ∈ TB := TB_of (tb_3 (List.mem_of_getElem? (i := 119) rfl)) rfl
theorem wcd_X6_cleanness : Cond.code yX6_cleanness cX6_cleanness 2 (some .double) ∈ TB := TB_of (tb_3 (List.mem_of_getElem? (i := 120) rfl)) rfl
theorem wml_RL_111 : Cond.methodLink RL 111 yX6_ifWind ∈ TB := TB_of (tb_3 (List.mem_of_getElem? (i := 121) rfl)) rfl
theorem wim_X6_ifWind : Cond.instanceMethod yX6_ifWind ∈ TB := TB_of (tb_3 (List.mem_of_getElem? (i := 122) rfl)) rfl
theorem wse_X6_ifWind : Cond.selects RX6 yX6_ifWind yX6_ifWind ∈ TB := TB_of (tb_3 (List.mem_of_getElem? (i := 123) rfl)) rfl
theorem wcd_X6_ifWind : Cond.code yX6_ifWind cX6_ifWind 2 (some .int) ∈ TB := TB_of (tb_3 (List.mem_of_getElem? (i := 124) rfl)) rfl
theorem wml_RX6_257 : Cond.methodLink RX6 257 yX0_linesSmokedBy ∈ TB := TB_of (tb_3 (List.mem_of_getElem? (i := 125) rfl)) rfl
theorem wml_RL_115 : Cond.methodLink RL 115 yX6_bestWind ∈ TB := TB_of (tb_3 (List.mem_of_getElem? (i := 126) rfl)) rfl
theorem wim_X6_bestWind : Cond.instanceMethod yX6_bestWind ∈ TB := TB_of (tb_3 (List.mem_of_getElem? (i := 127) rfl)) rfl
theorem wse_X6_bestWind : Cond.selects RX6 yX6_bestWind yX6_bestWind ∈ TB := TB_of (tb_3 (List.mem_of_getElem? (i := 128) rfl)) rfl
theorem wcd_X6_bestWind : Cond.code yX6_bestWind cX6_bestWind 3 (some .int) ∈ TB := TB_of (tb_3 (List.mem_of_getElem? (i := 129) rfl)) rfl
theorem wml_RL_119 : Cond.methodLink RL 119 yX6_ifDays ∈ TB := TB_of (tb_3 (List.mem_of_getElem? (i := 130) rfl)) rfl
theorem wim_X6_ifDays : Cond.instanceMethod yX6_ifDays ∈ TB := TB_of (tb_3 (List.mem_of_getElem? (i := 131) rfl)) rfl
theorem wse_X6_ifDays : Cond.selects RX6 yX6_ifDays yX6_ifDays ∈ TB := TB_of (tb_3 (List.mem_of_getElem? (i := 132) rfl)) rfl
theorem wcd_X6_ifDays : Cond.code yX6_ifDays cX6_ifDays 4 (some .int) ∈ TB := TB_of (tb_3 (List.mem_of_getElem? (i := 133) rfl)) rfl
theorem wml_RX6_260 : Cond.methodLink RX6 260 yX0_copyFrom ∈ TB := TB_of (tb_3 (List.mem_of_getElem? (i := 134) rfl)) rfl
theorem wml_RX6_263 : Cond.methodLink RX6 263 yX0_sumOverLines ∈ TB := TB_of (tb_3 (List.mem_of_getElem? (i := 135) rfl)) rfl
theorem wml_RL_123 : Cond.methodLink RL 123 yX6_bestPlace ∈ TB := TB_of (tb_3 (List.mem_of_getElem? (i := 136) rfl)) rfl
theorem wim_X6_bestPlace : Cond.instanceMethod yX6_bestPlace ∈ TB := TB_of (tb_3 (List.mem_of_getElem? (i := 137) rfl)) rfl
theorem wse_X6_bestPlace : Cond.selects RX6 yX6_bestPlace yX6_bestPlace ∈ TB := TB_of (tb_3 (List.mem_of_getElem? (i := 138) rfl)) rfl
theorem wcd_X6_bestPlace : Cond.code yX6_bestPlace cX6_bestPlace 6 (some .int) ∈ TB := TB_of (tb_3 (List.mem_of_getElem? (i := 139) rfl)) rfl
theorem wml_RX6_267 : Cond.methodLink RX6 267 yX0_windsSmoking ∈ TB := TB_of (tb_3 (List.mem_of_getElem? (i := 140) rfl)) rfl
theorem wim_X0_windsSmoking : Cond.instanceMethod yX0_windsSmoking ∈ TB := TB_of (tb_3 (List.mem_of_getElem? (i := 141) rfl)) rfl
theorem wse_X0_windsSmoking : Cond.selects RX0 yX0_windsSmoking yX0_windsSmoking ∈ TB := TB_of (tb_3 (List.mem_of_getElem? (i := 142) rfl)) rfl
theorem wcd_X0_windsSmoking : Cond.code yX0_windsSmoking cX0_windsSmoking 4 (some .int) ∈ TB := TB_of (tb_3 (List.mem_of_getElem? (i := 143) rfl)) rfl
theorem wml_RL_127 : Cond.methodLink RL 127 yX6_undo ∈ TB := TB_of (tb_3 (List.mem_of_getElem? (i := 144) rfl)) rfl
theorem wim_X6_undo : Cond.instanceMethod yX6_undo ∈ TB := TB_of (tb_3 (List.mem_of_getElem? (i := 145) rfl)) rfl
theorem wse_X6_undo : Cond.selects RX6 yX6_undo yX6_undo ∈ TB := TB_of (tb_3 (List.mem_of_getElem? (i := 146) rfl)) rfl
theorem wcd_X6_undo : Cond.code yX6_undo cX6_undo 1 (some .int) ∈ TB := TB_of (tb_3 (List.mem_of_getElem? (i := 147) rfl)) rfl
theorem wml_RX6_270 : Cond.methodLink RX6 270 yX1_popInto ∈ TB := TB_of (tb_3 (List.mem_of_getElem? (i := 148) rfl)) rfl
theorem wim_X1_popInto : Cond.instanceMethod yX1_popInto ∈ TB := TB_of (tb_3 (List.mem_of_getElem? (i := 149) rfl)) rfl
theorem wse_X1_popInto : Cond.selects RX1 yX1_popInto yX1_popInto ∈ TB := TB_of (tb_3 (List.mem_of_getElem? (i := 150) rfl)) rfl
theorem wcd_X1_popInto : Cond.code yX1_popInto cX1_popInto 4 none ∈ TB := TB_of (tb_3 (List.mem_of_getElem? (i := 151) rfl)) rfl
theorem wml_RX1_32 : Cond.methodLink RX1 32 yJ9_max_7cf53 ∈ TB := TB_of (tb_3 (List.mem_of_getElem? (i := 152) rfl)) rfl
theorem wst_J9_max_7cf53 : Cond.static yJ9_max_7cf53 ∈ TB := TB_of (tb_3 (List.mem_of_getElem? (i := 153) rfl)) rfl
theorem wcd_J9_max_7cf53 : Cond.code yJ9_max_7cf53 cJ9_max_7cf53 2 (some .int) ∈ TB := TB_of (tb_3 (List.mem_of_getElem? (i := 154) rfl)) rfl
theorem wml_RL_131 : Cond.methodLink RL 131 yX6_save ∈ TB := TB_of (tb_3 (List.mem_of_getElem? (i := 155) rfl)) rfl
theorem wim_X6_save : Cond.instanceMethod yX6_save ∈ TB := TB_of (tb_3 (List.mem_of_getElem? (i := 156) rfl)) rfl
theorem wse_X6_save : Cond.selects RX6 yX6_save yX6_save ∈ TB := TB_of (tb_3 (List.mem_of_getElem? (i := 157) rfl)) rfl
theorem wcd_X6_save : Cond.code yX6_save cX6_save 1 (some .int) ∈ TB := TB_of (tb_3 (List.mem_of_getElem? (i := 158) rfl)) rfl
theorem wml_RL_135 : Cond.methodLink RL 135 yX6_restore ∈ TB := TB_of (tb_3 (List.mem_of_getElem? (i := 159) rfl)) rfl
theorem wim_X6_restore : Cond.instanceMethod yX6_restore ∈ TB := TB_of (tb_3 (List.mem_of_getElem? (i := 160) rfl)) rfl
theorem wse_X6_restore : Cond.selects RX6 yX6_restore yX6_restore ∈ TB := TB_of (tb_3 (List.mem_of_getElem? (i := 161) rfl)) rfl
theorem wcd_X6_restore : Cond.code yX6_restore cX6_restore 1 (some .int) ∈ TB := TB_of (tb_3 (List.mem_of_getElem? (i := 162) rfl)) rfl
theorem wcl_RL_10 : Cond.classLink RL 10 RX7 ∈ TB := TB_of (tb_3 (List.mem_of_getElem? (i := 163) rfl)) rfl
theorem wis_RX7 : Cond.instantiable RX7 15 ∈ TB := TB_of (tb_3 (List.mem_of_getElem? (i := 164) rfl)) rfl
theorem wml_RL_12 : Cond.methodLink RL 12 yX7_init ∈ TB := TB_of (tb_3 (List.mem_of_getElem? (i := 165) rfl)) rfl
theorem wim_X7_init : Cond.instanceMethod yX7_init ∈ TB := TB_of (tb_3 (List.mem_of_getElem? (i := 166) rfl)) rfl
theorem wcd_X7_init : Cond.code yX7_init cX7_init 2 none ∈ TB := TB_of (tb_3 (List.mem_of_getElem? (i := 167) rfl)) rfl
theorem wml_RX7_1 : Cond.methodLink RX7 1 objectInit ∈ TB := TB_of (tb_3 (List.mem_of_getElem? (i := 168) rfl)) rfl
theorem wco_RX7_28 : Cond.constant RX7 28 65535 ∈ TB := TB_of (tb_3 (List.mem_of_getElem? (i := 169) rfl)) rfl
theorem wml_RX7_29 : Cond.methodLink RX7 29 yX7_isGangway ∈ TB := TB_of (tb_3 (List.mem_of_getElem? (i := 170) rfl)) rfl
theorem wst_X7_isGangway : Cond.static yX7_isGangway ∈ TB := TB_of (tb_3 (List.mem_of_getElem? (i := 171) rfl)) rfl
theorem wcd_X7_isGangway : Cond.code yX7_isGangway cX7_isGangway 1 (some .boolean) ∈ TB := TB_of (tb_3 (List.mem_of_getElem? (i := 172) rfl)) rfl
theorem wml_RX7_41 : Cond.methodLink RX7 41 yX7_in ∈ TB := TB_of (tb_3 (List.mem_of_getElem? (i := 173) rfl)) rfl
theorem wst_X7_in : Cond.static yX7_in ∈ TB := TB_of (tb_3 (List.mem_of_getElem? (i := 174) rfl)) rfl
theorem wcd_X7_in : Cond.code yX7_in cX7_in 3 (some .boolean) ∈ TB := TB_of (tb_3 (List.mem_of_getElem? (i := 175) rfl)) rfl
theorem wfl_RX7_7 : Cond.fieldLink RX7 7 "RoofOrdinancesModel" "s" "[I" ∈ TB := TB_of (tb_3 (List.mem_of_getElem? (i := 176) rfl)) rfl
theorem wfl_RX7_13 : Cond.fieldLink RX7 13 "RoofOrdinancesModel" "aside" "[I" ∈ TB := TB_of (tb_3 (List.mem_of_getElem? (i := 177) rfl)) rfl
theorem wfl_RX7_16 : Cond.fieldLink RX7 16 "RoofOrdinancesModel" "past" "[I" ∈ TB := TB_of (tb_3 (List.mem_of_getElem? (i := 178) rfl)) rfl
theorem wfl_RX7_33 : Cond.fieldLink RX7 33 "RoofOrdinancesModel" "known" "I" ∈ TB := TB_of (tb_3 (List.mem_of_getElem? (i := 179) rfl)) rfl
theorem wfl_RX7_19 : Cond.fieldLink RX7 19 "RoofOrdinancesModel" "kept" "[I" ∈ TB := TB_of (tb_3 (List.mem_of_getElem? (i := 180) rfl)) rfl
theorem wfl_RX7_235 : Cond.fieldLink RX7 235 "RoofOrdinancesModel" "isKept" "Z" ∈ TB := TB_of (tb_3 (List.mem_of_getElem? (i := 181) rfl)) rfl
theorem wfl_RX7_22 : Cond.fieldLink RX7 22 "RoofOrdinancesModel" "pad" "[I" ∈ TB := TB_of (tb_3 (List.mem_of_getElem? (i := 182) rfl)) rfl
theorem wfl_RX7_145 : Cond.fieldLink RX7 145 "RoofOrdinancesModel" "length" "I" ∈ TB := TB_of (tb_3 (List.mem_of_getElem? (i := 183) rfl)) rfl
theorem wfl_RX7_148 : Cond.fieldLink RX7 148 "RoofOrdinancesModel" "spot" "I" ∈ TB := TB_of (tb_3 (List.mem_of_getElem? (i := 184) rfl)) rfl
theorem wfl_RX7_151 : Cond.fieldLink RX7 151 "RoofOrdinancesModel" "isForm" "Z" ∈ TB := TB_of (tb_3 (List.mem_of_getElem? (i := 185) rfl)) rfl
theorem wfl_RX7_166 : Cond.fieldLink RX7 166 "RoofOrdinancesModel" "letter" "I" ∈ TB := TB_of (tb_3 (List.mem_of_getElem? (i := 186) rfl)) rfl
theorem wfl_RX7_169 : Cond.fieldLink RX7 169 "RoofOrdinancesModel" "first" "I" ∈ TB := TB_of (tb_3 (List.mem_of_getElem? (i := 187) rfl)) rfl
theorem wfl_RX7_176 : Cond.fieldLink RX7 176 "RoofOrdinancesModel" "second" "I" ∈ TB := TB_of (tb_3 (List.mem_of_getElem? (i := 188) rfl)) rfl
theorem wfl_RX7_186 : Cond.fieldLink RX7 186 "RoofOrdinancesModel" "isStopped" "Z" ∈ TB := TB_of (tb_3 (List.mem_of_getElem? (i := 189) rfl)) rfl
theorem wfl_RX7_25 : Cond.fieldLink RX7 25 "RoofOrdinancesModel" "stop" "[I" ∈ TB := TB_of (tb_3 (List.mem_of_getElem? (i := 190) rfl)) rfl
theorem wla_RX7_s : Cond.laysFinal RX7 "RoofOrdinancesModel" "s" "[I" ∈ TB := TB_of (tb_3 (List.mem_of_getElem? (i := 191) rfl)) rfl
theorem wla_RX7_aside : Cond.laysFinal RX7 "RoofOrdinancesModel" "aside" "[I" ∈ TB := TB_of (tb_3 (List.mem_of_getElem? (i := 193) rfl)) rfl
theorem wla_RX7_past : Cond.laysFinal RX7 "RoofOrdinancesModel" "past" "[I" ∈ TB := TB_of (tb_3 (List.mem_of_getElem? (i := 195) rfl)) rfl
theorem wla_RX7_known : Cond.lays RX7 "RoofOrdinancesModel" "known" "I" ∈ TB := TB_of (tb_3 (List.mem_of_getElem? (i := 197) rfl)) rfl
theorem wla_RX7_kept : Cond.laysFinal RX7 "RoofOrdinancesModel" "kept" "[I" ∈ TB := TB_of (tb_3 (List.mem_of_getElem? (i := 199) rfl)) rfl
theorem wla_RX7_isKept : Cond.lays RX7 "RoofOrdinancesModel" "isKept" "Z" ∈ TB := TB_of (tb_3 (List.mem_of_getElem? (i := 201) rfl)) rfl
theorem wla_RX7_pad : Cond.laysFinal RX7 "RoofOrdinancesModel" "pad" "[I" ∈ TB := TB_of (tb_3 (List.mem_of_getElem? (i := 203) rfl)) rfl
theorem wla_RX7_length : Cond.lays RX7 "RoofOrdinancesModel" "length" "I" ∈ TB := TB_of (tb_3 (List.mem_of_getElem? (i := 205) rfl)) rfl
theorem wla_RX7_spot : Cond.lays RX7 "RoofOrdinancesModel" "spot" "I" ∈ TB := TB_of (tb_3 (List.mem_of_getElem? (i := 207) rfl)) rfl
theorem wla_RX7_isForm : Cond.lays RX7 "RoofOrdinancesModel" "isForm" "Z" ∈ TB := TB_of (tb_3 (List.mem_of_getElem? (i := 209) rfl)) rfl
theorem wla_RX7_letter : Cond.lays RX7 "RoofOrdinancesModel" "letter" "I" ∈ TB := TB_of (tb_3 (List.mem_of_getElem? (i := 211) rfl)) rfl
theorem wla_RX7_first : Cond.lays RX7 "RoofOrdinancesModel" "first" "I" ∈ TB := TB_of (tb_3 (List.mem_of_getElem? (i := 213) rfl)) rfl
theorem wla_RX7_second : Cond.lays RX7 "RoofOrdinancesModel" "second" "I" ∈ TB := TB_of (tb_3 (List.mem_of_getElem? (i := 215) rfl)) rfl
theorem wla_RX7_isStopped : Cond.lays RX7 "RoofOrdinancesModel" "isStopped" "Z" ∈ TB := TB_of (tb_3 (List.mem_of_getElem? (i := 217) rfl)) rfl
theorem wla_RX7_stop : Cond.laysFinal RX7 "RoofOrdinancesModel" "stop" "[I" ∈ TB := TB_of (tb_3 (List.mem_of_getElem? (i := 219) rfl)) rfl
theorem wml_RL_17 : Cond.methodLink RL 17 yX7_bears ∈ TB := TB_of (tb_3 (List.mem_of_getElem? (i := 222) rfl)) rfl
theorem wim_X7_bears : Cond.instanceMethod yX7_bears ∈ TB := TB_of (tb_3 (List.mem_of_getElem? (i := 223) rfl)) rfl
theorem wse_X7_bears : Cond.selects RX7 yX7_bears yX7_bears ∈ TB := TB_of (tb_3 (List.mem_of_getElem? (i := 224) rfl)) rfl
theorem wcd_X7_bears : Cond.code yX7_bears cX7_bears 4 (some .int) ∈ TB := TB_of (tb_3 (List.mem_of_getElem? (i := 225) rfl)) rfl
theorem wml_RX7_118 : Cond.methodLink RX7 118 yX7_records ∈ TB := TB_of (tb_3 (List.mem_of_getElem? (i := 226) rfl)) rfl
theorem wim_X7_records : Cond.instanceMethod yX7_records ∈ TB := TB_of (tb_3 (List.mem_of_getElem? (i := 228) rfl)) rfl
theorem wcd_X7_records : Cond.code yX7_records cX7_records 2 none ∈ TB := TB_of (tb_3 (List.mem_of_getElem? (i := 229) rfl)) rfl
theorem wml_RX7_37 : Cond.methodLink RX7 37 yX7_copies ∈ TB := TB_of (tb_3 (List.mem_of_getElem? (i := 230) rfl)) rfl
theorem wst_X7_copies : Cond.static yX7_copies ∈ TB := TB_of (tb_3 (List.mem_of_getElem? (i := 231) rfl)) rfl
theorem wcd_X7_copies : Cond.code yX7_copies cX7_copies 5 none ∈ TB := TB_of (tb_3 (List.mem_of_getElem? (i := 232) rfl)) rfl
theorem wml_RX7_52 : Cond.methodLink RX7 52 yX7_of ∈ TB := TB_of (tb_3 (List.mem_of_getElem? (i := 233) rfl)) rfl
theorem wim_X7_of : Cond.instanceMethod yX7_of ∈ TB := TB_of (tb_3 (List.mem_of_getElem? (i := 235) rfl)) rfl
theorem wcd_X7_of : Cond.code yX7_of cX7_of 3 (some .int) ∈ TB := TB_of (tb_3 (List.mem_of_getElem? (i := 236) rfl)) rfl
theorem wml_RX7_91 : Cond.methodLink RX7 91 yX7_lays ∈ TB := TB_of (tb_3 (List.mem_of_getElem? (i := 237) rfl)) rfl
theorem wim_X7_lays : Cond.instanceMethod yX7_lays ∈ TB := TB_of (tb_3 (List.mem_of_getElem? (i := 239) rfl)) rfl
theorem wcd_X7_lays : Cond.code yX7_lays cX7_lays 4 none ∈ TB := TB_of (tb_4 (List.mem_of_getElem? (i := 0) rfl)) rfl
theorem wml_RX7_56 : Cond.methodLink RX7 56 yX7_hasLine ∈ TB := TB_of (tb_4 (List.mem_of_getElem? (i := 1) rfl)) rfl
theorem wim_X7_hasLine : Cond.instanceMethod yX7_hasLine ∈ TB := TB_of (tb_4 (List.mem_of_getElem? (i := 3) rfl)) rfl
theorem wcd_X7_hasLine : Cond.code yX7_hasLine cX7_hasLine 2 (some .boolean) ∈ TB := TB_of (tb_4 (List.mem_of_getElem? (i := 4) rfl)) rfl
theorem wml_RX7_101 : Cond.methodLink RX7 101 yX7_removes ∈ TB := TB_of (tb_4 (List.mem_of_getElem? (i := 5) rfl)) rfl
theorem wim_X7_removes : Cond.instanceMethod yX7_removes ∈ TB := TB_of (tb_4 (List.mem_of_getElem? (i := 7) rfl)) rfl
theorem wcd_X7_removes : Cond.code yX7_removes cX7_removes 2 none ∈ TB := TB_of (tb_4 (List.mem_of_getElem? (i := 8) rfl)) rfl
theorem wml_RL_22 : Cond.methodLink RL 22 yX7_wind ∈ TB := TB_of (tb_4 (List.mem_of_getElem? (i := 9) rfl)) rfl
theorem wim_X7_wind : Cond.instanceMethod yX7_wind ∈ TB := TB_of (tb_4 (List.mem_of_getElem? (i := 10) rfl)) rfl
theorem wse_X7_wind : Cond.selects RX7 yX7_wind yX7_wind ∈ TB := TB_of (tb_4 (List.mem_of_getElem? (i := 11) rfl)) rfl
theorem wcd_X7_wind : Cond.code yX7_wind cX7_wind 3 (some .int) ∈ TB := TB_of (tb_4 (List.mem_of_getElem? (i := 12) rfl)) rfl
theorem wml_RL_26 : Cond.methodLink RL 26 yX7_chimney ∈ TB := TB_of (tb_4 (List.mem_of_getElem? (i := 13) rfl)) rfl
theorem wim_X7_chimney : Cond.instanceMethod yX7_chimney ∈ TB := TB_of (tb_4 (List.mem_of_getElem? (i := 14) rfl)) rfl
theorem wse_X7_chimney : Cond.selects RX7 yX7_chimney yX7_chimney ∈ TB := TB_of (tb_4 (List.mem_of_getElem? (i := 15) rfl)) rfl
theorem wcd_X7_chimney : Cond.code yX7_chimney cX7_chimney 2 (some .int) ∈ TB := TB_of (tb_4 (List.mem_of_getElem? (i := 16) rfl)) rfl
theorem wml_RX7_121 : Cond.methodLink RX7 121 yX7_isRoof ∈ TB := TB_of (tb_4 (List.mem_of_getElem? (i := 17) rfl)) rfl
theorem wst_X7_isRoof : Cond.static yX7_isRoof ∈ TB := TB_of (tb_4 (List.mem_of_getElem? (i := 18) rfl)) rfl
theorem wcd_X7_isRoof : Cond.code yX7_isRoof cX7_isRoof 1 (some .boolean) ∈ TB := TB_of (tb_4 (List.mem_of_getElem? (i := 19) rfl)) rfl
theorem wml_RX7_124 : Cond.methodLink RX7 124 yX7_goChimney ∈ TB := TB_of (tb_4 (List.mem_of_getElem? (i := 20) rfl)) rfl
theorem wim_X7_goChimney : Cond.instanceMethod yX7_goChimney ∈ TB := TB_of (tb_4 (List.mem_of_getElem? (i := 22) rfl)) rfl
theorem wcd_X7_goChimney : Cond.code yX7_goChimney cX7_goChimney 2 (some .int) ∈ TB := TB_of (tb_4 (List.mem_of_getElem? (i := 23) rfl)) rfl
theorem wml_RX7_78 : Cond.methodLink RX7 78 yX7_smoke ∈ TB := TB_of (tb_4 (List.mem_of_getElem? (i := 24) rfl)) rfl
theorem wim_X7_smoke : Cond.instanceMethod yX7_smoke ∈ TB := TB_of (tb_4 (List.mem_of_getElem? (i := 26) rfl)) rfl
theorem wcd_X7_smoke : Cond.code yX7_smoke cX7_smoke 1 (some .int) ∈ TB := TB_of (tb_4 (List.mem_of_getElem? (i := 27) rfl)) rfl
theorem wml_RX7_69 : Cond.methodLink RX7 69 yX7_smokeBy ∈ TB := TB_of (tb_4 (List.mem_of_getElem? (i := 28) rfl)) rfl
theorem wim_X7_smokeBy : Cond.instanceMethod yX7_smokeBy ∈ TB := TB_of (tb_4 (List.mem_of_getElem? (i := 30) rfl)) rfl
theorem wcd_X7_smokeBy : Cond.code yX7_smokeBy cX7_smokeBy 4 (some .int) ∈ TB := TB_of (tb_4 (List.mem_of_getElem? (i := 31) rfl)) rfl
theorem wml_RX7_62 : Cond.methodLink RX7 62 yX7_isIn ∈ TB := TB_of (tb_4 (List.mem_of_getElem? (i := 32) rfl)) rfl
theorem wst_X7_isIn : Cond.static yX7_isIn ∈ TB := TB_of (tb_4 (List.mem_of_getElem? (i := 33) rfl)) rfl
theorem wcd_X7_isIn : Cond.code yX7_isIn cX7_isIn 2 (some .boolean) ∈ TB := TB_of (tb_4 (List.mem_of_getElem? (i := 34) rfl)) rfl
theorem wml_RX7_66 : Cond.methodLink RX7 66 yX7_smokeOf ∈ TB := TB_of (tb_4 (List.mem_of_getElem? (i := 35) rfl)) rfl
theorem wim_X7_smokeOf : Cond.instanceMethod yX7_smokeOf ∈ TB := TB_of (tb_4 (List.mem_of_getElem? (i := 37) rfl)) rfl
theorem wcd_X7_smokeOf : Cond.code yX7_smokeOf cX7_smokeOf 6 (some .int) ∈ TB := TB_of (tb_4 (List.mem_of_getElem? (i := 38) rfl)) rfl
theorem wml_RX7_59 : Cond.methodLink RX7 59 yX7_nextTo ∈ TB := TB_of (tb_4 (List.mem_of_getElem? (i := 39) rfl)) rfl
theorem wst_X7_nextTo : Cond.static yX7_nextTo ∈ TB := TB_of (tb_4 (List.mem_of_getElem? (i := 40) rfl)) rfl
theorem wcd_X7_nextTo : Cond.code yX7_nextTo cX7_nextTo 4 (some .int) ∈ TB := TB_of (tb_4 (List.mem_of_getElem? (i := 41) rfl)) rfl
theorem wml_RX7_112 : Cond.methodLink RX7 112 yX7_ones ∈ TB := TB_of (tb_4 (List.mem_of_getElem? (i := 42) rfl)) rfl
theorem wst_X7_ones : Cond.static yX7_ones ∈ TB := TB_of (tb_4 (List.mem_of_getElem? (i := 43) rfl)) rfl
theorem wcd_X7_ones : Cond.code yX7_ones cX7_ones 3 (some .int) ∈ TB := TB_of (tb_4 (List.mem_of_getElem? (i := 44) rfl)) rfl
theorem wml_RL_30 : Cond.methodLink RL 30 yX7_coop ∈ TB := TB_of (tb_4 (List.mem_of_getElem? (i := 45) rfl)) rfl
theorem wim_X7_coop : Cond.instanceMethod yX7_coop ∈ TB := TB_of (tb_4 (List.mem_of_getElem? (i := 46) rfl)) rfl
theorem wse_X7_coop : Cond.selects RX7 yX7_coop yX7_coop ∈ TB := TB_of (tb_4 (List.mem_of_getElem? (i := 47) rfl)) rfl
theorem wcd_X7_coop : Cond.code yX7_coop cX7_coop 2 (some .int) ∈ TB := TB_of (tb_4 (List.mem_of_getElem? (i := 48) rfl)) rfl
theorem wml_RL_35 : Cond.methodLink RL 35 yX7_owner ∈ TB := TB_of (tb_4 (List.mem_of_getElem? (i := 49) rfl)) rfl
theorem wim_X7_owner : Cond.instanceMethod yX7_owner ∈ TB := TB_of (tb_4 (List.mem_of_getElem? (i := 50) rfl)) rfl
theorem wse_X7_owner : Cond.selects RX7 yX7_owner yX7_owner ∈ TB := TB_of (tb_4 (List.mem_of_getElem? (i := 51) rfl)) rfl
theorem wcd_X7_owner : Cond.code yX7_owner cX7_owner 6 (some .int) ∈ TB := TB_of (tb_4 (List.mem_of_getElem? (i := 52) rfl)) rfl
theorem wml_RX7_127 : Cond.methodLink RX7 127 yX7_isOwner ∈ TB := TB_of (tb_4 (List.mem_of_getElem? (i := 53) rfl)) rfl
theorem wst_X7_isOwner : Cond.static yX7_isOwner ∈ TB := TB_of (tb_4 (List.mem_of_getElem? (i := 54) rfl)) rfl
theorem wcd_X7_isOwner : Cond.code yX7_isOwner cX7_isOwner 1 (some .boolean) ∈ TB := TB_of (tb_4 (List.mem_of_getElem? (i := 55) rfl)) rfl
theorem wml_RX7_72 : Cond.methodLink RX7 72 yX7_ofOwner ∈ TB := TB_of (tb_4 (List.mem_of_getElem? (i := 56) rfl)) rfl
theorem wim_X7_ofOwner : Cond.instanceMethod yX7_ofOwner ∈ TB := TB_of (tb_4 (List.mem_of_getElem? (i := 58) rfl)) rfl
theorem wcd_X7_ofOwner : Cond.code yX7_ofOwner cX7_ofOwner 3 (some .int) ∈ TB := TB_of (tb_4 (List.mem_of_getElem? (i := 59) rfl)) rfl
theorem wml_RL_39 : Cond.methodLink RL 39 yX7_reach ∈ TB := TB_of (tb_4 (List.mem_of_getElem? (i := 60) rfl)) rfl
theorem wim_X7_reach : Cond.instanceMethod yX7_reach ∈ TB := TB_of (tb_4 (List.mem_of_getElem? (i := 61) rfl)) rfl
theorem wse_X7_reach : Cond.selects RX7 yX7_reach yX7_reach ∈ TB := TB_of (tb_4 (List.mem_of_getElem? (i := 62) rfl)) rfl
theorem wcd_X7_reach : Cond.code yX7_reach cX7_reach 3 (some .int) ∈ TB := TB_of (tb_4 (List.mem_of_getElem? (i := 63) rfl)) rfl
theorem wml_RL_43 : Cond.methodLink RL 43 yX7_hang ∈ TB := TB_of (tb_4 (List.mem_of_getElem? (i := 64) rfl)) rfl
theorem wim_X7_hang : Cond.instanceMethod yX7_hang ∈ TB := TB_of (tb_4 (List.mem_of_getElem? (i := 65) rfl)) rfl
theorem wse_X7_hang : Cond.selects RX7 yX7_hang yX7_hang ∈ TB := TB_of (tb_4 (List.mem_of_getElem? (i := 66) rfl)) rfl
theorem wcd_X7_hang : Cond.code yX7_hang cX7_hang 3 (some .int) ∈ TB := TB_of (tb_4 (List.mem_of_getElem? (i := 67) rfl)) rfl
theorem wml_RX7_130 : Cond.methodLink RX7 130 yX7_goHang ∈ TB := TB_of (tb_4 (List.mem_of_getElem? (i := 68) rfl)) rfl
theorem wim_X7_goHang : Cond.instanceMethod yX7_goHang ∈ TB := TB_of (tb_4 (List.mem_of_getElem? (i := 70) rfl)) rfl
theorem wcd_X7_goHang : Cond.code yX7_goHang cX7_goHang 4 (some .int) ∈ TB := TB_of (tb_4 (List.mem_of_getElem? (i := 71) rfl)) rfl
theorem wml_RX7_95 : Cond.methodLink RX7 95 yX7_reasonToHang ∈ TB := TB_of (tb_4 (List.mem_of_getElem? (i := 72) rfl)) rfl
theorem wim_X7_reasonToHang : Cond.instanceMethod yX7_reasonToHang ∈ TB := TB_of (tb_4 (List.mem_of_getElem? (i := 74) rfl)) rfl
theorem wcd_X7_reasonToHang : Cond.code yX7_reasonToHang cX7_reasonToHang 3 (some .int) ∈ TB := TB_of (tb_4 (List.mem_of_getElem? (i := 75) rfl)) rfl
theorem wml_RX7_75 : Cond.methodLink RX7 75 yX7_bothOf ∈ TB := TB_of (tb_4 (List.mem_of_getElem? (i := 76) rfl)) rfl
theorem wim_X7_bothOf : Cond.instanceMethod yX7_bothOf ∈ TB := TB_of (tb_4 (List.mem_of_getElem? (i := 78) rfl)) rfl
theorem wcd_X7_bothOf : Cond.code yX7_bothOf cX7_bothOf 2 (some .int) ∈ TB := TB_of (tb_4 (List.mem_of_getElem? (i := 79) rfl)) rfl
theorem wml_RX7_45 : Cond.methodLink RX7 45 yX7_lesserOf ∈ TB := TB_of (tb_4 (List.mem_of_getElem? (i := 80) rfl)) rfl
theorem wst_X7_lesserOf : Cond.static yX7_lesserOf ∈ TB := TB_of (tb_4 (List.mem_of_getElem? (i := 81) rfl)) rfl
theorem wcd_X7_lesserOf : Cond.code yX7_lesserOf cX7_lesserOf 1 (some .int) ∈ TB := TB_of (tb_4 (List.mem_of_getElem? (i := 82) rfl)) rfl
theorem wml_RX7_49 : Cond.methodLink RX7 49 yX7_greaterOf ∈ TB := TB_of (tb_4 (List.mem_of_getElem? (i := 83) rfl)) rfl
theorem wst_X7_greaterOf : Cond.static yX7_greaterOf ∈ TB := TB_of (tb_4 (List.mem_of_getElem? (i := 84) rfl)) rfl
theorem wcd_X7_greaterOf : Cond.code yX7_greaterOf cX7_greaterOf 1 (some .int) ∈ TB := TB_of (tb_4 (List.mem_of_getElem? (i := 85) rfl)) rfl
theorem wml_RX7_82 : Cond.methodLink RX7 82 yX7_nearCoops ∈ TB := TB_of (tb_4 (List.mem_of_getElem? (i := 86) rfl)) rfl
theorem wim_X7_nearCoops : Cond.instanceMethod yX7_nearCoops ∈ TB := TB_of (tb_4 (List.mem_of_getElem? (i := 88) rfl)) rfl
theorem wcd_X7_nearCoops : Cond.code yX7_nearCoops cX7_nearCoops 5 (some .int) ∈ TB := TB_of (tb_4 (List.mem_of_getElem? (i := 89) rfl)) rfl
theorem wml_RX7_98 : Cond.methodLink RX7 98 yX7_refuses ∈ TB := TB_of (tb_4 (List.mem_of_getElem? (i := 90) rfl)) rfl
theorem wim_X7_refuses : Cond.instanceMethod yX7_refuses ∈ TB := TB_of (tb_4 (List.mem_of_getElem? (i := 92) rfl)) rfl
theorem wcd_X7_refuses : Cond.code yX7_refuses cX7_refuses 2 (some .int) ∈ TB := TB_of (tb_4 (List.mem_of_getElem? (i := 93) rfl)) rfl
theorem wml_RX7_105 : Cond.methodLink RX7 105 yX7_linesNow ∈ TB := TB_of (tb_4 (List.mem_of_getElem? (i := 94) rfl)) rfl
theorem wim_X7_linesNow : Cond.instanceMethod yX7_linesNow ∈ TB := TB_of (tb_4 (List.mem_of_getElem? (i := 96) rfl)) rfl
theorem wcd_X7_linesNow : Cond.code yX7_linesNow cX7_linesNow 3 (some .int) ∈ TB := TB_of (tb_4 (List.mem_of_getElem? (i := 97) rfl)) rfl
theorem wml_RL_47 : Cond.methodLink RL 47 yX7_take ∈ TB := TB_of (tb_4 (List.mem_of_getElem? (i := 98) rfl)) rfl
theorem wim_X7_take : Cond.instanceMethod yX7_take ∈ TB := TB_of (tb_4 (List.mem_of_getElem? (i := 99) rfl)) rfl
theorem wse_X7_take : Cond.selects RX7 yX7_take yX7_take ∈ TB := TB_of (tb_4 (List.mem_of_getElem? (i := 100) rfl)) rfl
theorem wcd_X7_take : Cond.code yX7_take cX7_take 3 (some .int) ∈ TB := TB_of (tb_4 (List.mem_of_getElem? (i := 101) rfl)) rfl
theorem wml_RX7_133 : Cond.methodLink RX7 133 yX7_goTake ∈ TB := TB_of (tb_4 (List.mem_of_getElem? (i := 102) rfl)) rfl
theorem wim_X7_goTake : Cond.instanceMethod yX7_goTake ∈ TB := TB_of (tb_4 (List.mem_of_getElem? (i := 104) rfl)) rfl
theorem wcd_X7_goTake : Cond.code yX7_goTake cX7_goTake 4 (some .int) ∈ TB := TB_of (tb_4 (List.mem_of_getElem? (i := 105) rfl)) rfl
theorem wml_RL_51 : Cond.methodLink RL 51 yX7_walk ∈ TB := TB_of (tb_4 (List.mem_of_getElem? (i := 106) rfl)) rfl
theorem wim_X7_walk : Cond.instanceMethod yX7_walk ∈ TB := TB_of (tb_4 (List.mem_of_getElem? (i := 107) rfl)) rfl
theorem wse_X7_walk : Cond.selects RX7 yX7_walk yX7_walk ∈ TB := TB_of (tb_4 (List.mem_of_getElem? (i := 108) rfl)) rfl
theorem wcd_X7_walk : Cond.code yX7_walk cX7_walk 3 (some .int) ∈ TB := TB_of (tb_4 (List.mem_of_getElem? (i := 109) rfl)) rfl
theorem wml_RX7_136 : Cond.methodLink RX7 136 yX7_isOfRoof ∈ TB := TB_of (tb_4 (List.mem_of_getElem? (i := 110) rfl)) rfl
theorem wst_X7_isOfRoof : Cond.static yX7_isOfRoof ∈ TB := TB_of (tb_4 (List.mem_of_getElem? (i := 111) rfl)) rfl
theorem wcd_X7_isOfRoof : Cond.code yX7_isOfRoof cX7_isOfRoof 2 (some .boolean) ∈ TB := TB_of (tb_4 (List.mem_of_getElem? (i := 112) rfl)) rfl
theorem wml_RX7_139 : Cond.methodLink RX7 139 yX7_goWalk ∈ TB := TB_of (tb_4 (List.mem_of_getElem? (i := 113) rfl)) rfl
theorem wim_X7_goWalk : Cond.instanceMethod yX7_goWalk ∈ TB := TB_of (tb_4 (List.mem_of_getElem? (i := 115) rfl)) rfl
theorem wcd_X7_goWalk : Cond.code yX7_goWalk cX7_goWalk 5 (some .int) ∈ TB := TB_of (tb_4 (List.mem_of_getElem? (i := 116) rfl)) rfl
theorem wml_RX7_108 : Cond.methodLink RX7 108 yX7_reasonToWalk ∈ TB := TB_of (tb_4 (List.mem_of_getElem? (i := 117) rfl)) rfl
theorem wim_X7_reasonToWalk : Cond.instanceMethod yX7_reasonToWalk ∈ TB := TB_of (tb_4 (List.mem_of_getElem? (i := 119) rfl)) rfl
theorem wcd_X7_reasonToWalk : Cond.code yX7_reasonToWalk cX7_reasonToWalk 4 (some .int) ∈ TB := TB_of (tb_4 (List.mem_of_getElem? (i := 120) rfl)) rfl
theorem wml_RX7_85 : Cond.methodLink RX7 85 yX7_otherOf ∈ TB := TB_of (tb_4 (List.mem_of_getElem? (i := 121) rfl)) rfl
theorem wst_X7_otherOf : Cond.static yX7_otherOf ∈ TB := TB_of (tb_4 (List.mem_of_getElem? (i := 122) rfl)) rfl
theorem wcd_X7_otherOf : Cond.code yX7_otherOf cX7_otherOf 2 (some .int) ∈ TB := TB_of (tb_4 (List.mem_of_getElem? (i := 123) rfl)) rfl
theorem wml_RL_56 : Cond.methodLink RL 56 yX7_day ∈ TB := TB_of (tb_4 (List.mem_of_getElem? (i := 124) rfl)) rfl
theorem wim_X7_day : Cond.instanceMethod yX7_day ∈ TB := TB_of (tb_4 (List.mem_of_getElem? (i := 125) rfl)) rfl
theorem wse_X7_day : Cond.selects RX7 yX7_day yX7_day ∈ TB := TB_of (tb_4 (List.mem_of_getElem? (i := 126) rfl)) rfl
theorem wcd_X7_day : Cond.code yX7_day cX7_day 1 (some .int) ∈ TB := TB_of (tb_4 (List.mem_of_getElem? (i := 127) rfl)) rfl
theorem wml_RX7_142 : Cond.methodLink RX7 142 yX7_goDay ∈ TB := TB_of (tb_4 (List.mem_of_getElem? (i := 128) rfl)) rfl
theorem wim_X7_goDay : Cond.instanceMethod yX7_goDay ∈ TB := TB_of (tb_4 (List.mem_of_getElem? (i := 130) rfl)) rfl
theorem wcd_X7_goDay : Cond.code yX7_goDay cX7_goDay 4 (some .int) ∈ TB := TB_of (tb_4 (List.mem_of_getElem? (i := 131) rfl)) rfl
theorem wml_RX7_115 : Cond.methodLink RX7 115 yX7_cleanNow ∈ TB := TB_of (tb_4 (List.mem_of_getElem? (i := 132) rfl)) rfl
theorem wim_X7_cleanNow : Cond.instanceMethod yX7_cleanNow ∈ TB := TB_of (tb_4 (List.mem_of_getElem? (i := 134) rfl)) rfl
theorem wcd_X7_cleanNow : Cond.code yX7_cleanNow cX7_cleanNow 3 (some .int) ∈ TB := TB_of (tb_4 (List.mem_of_getElem? (i := 135) rfl)) rfl
theorem wml_RX7_88 : Cond.methodLink RX7 88 yX7_isClean ∈ TB := TB_of (tb_4 (List.mem_of_getElem? (i := 136) rfl)) rfl
theorem wim_X7_isClean : Cond.instanceMethod yX7_isClean ∈ TB := TB_of (tb_4 (List.mem_of_getElem? (i := 138) rfl)) rfl
theorem wcd_X7_isClean : Cond.code yX7_isClean cX7_isClean 2 (some .boolean) ∈ TB := TB_of (tb_4 (List.mem_of_getElem? (i := 139) rfl)) rfl
theorem wml_RL_60 : Cond.methodLink RL 60 yX7_append ∈ TB := TB_of (tb_4 (List.mem_of_getElem? (i := 140) rfl)) rfl
theorem wim_X7_append : Cond.instanceMethod yX7_append ∈ TB := TB_of (tb_4 (List.mem_of_getElem? (i := 141) rfl)) rfl
theorem wse_X7_append : Cond.selects RX7 yX7_append yX7_append ∈ TB := TB_of (tb_4 (List.mem_of_getElem? (i := 142) rfl)) rfl
theorem wcd_X7_append : Cond.code yX7_append cX7_append 2 (some .int) ∈ TB := TB_of (tb_4 (List.mem_of_getElem? (i := 143) rfl)) rfl
theorem wml_RL_64 : Cond.methodLink RL 64 yX7_clear ∈ TB := TB_of (tb_4 (List.mem_of_getElem? (i := 144) rfl)) rfl
theorem wim_X7_clear : Cond.instanceMethod yX7_clear ∈ TB := TB_of (tb_4 (List.mem_of_getElem? (i := 145) rfl)) rfl
theorem wse_X7_clear : Cond.selects RX7 yX7_clear yX7_clear ∈ TB := TB_of (tb_4 (List.mem_of_getElem? (i := 146) rfl)) rfl
theorem wcd_X7_clear : Cond.code yX7_clear cX7_clear 2 (some .int) ∈ TB := TB_of (tb_4 (List.mem_of_getElem? (i := 147) rfl)) rfl
theorem wml_RL_68 : Cond.methodLink RL 68 yX7_fault ∈ TB := TB_of (tb_4 (List.mem_of_getElem? (i := 148) rfl)) rfl
theorem wim_X7_fault : Cond.instanceMethod yX7_fault ∈ TB := TB_of (tb_4 (List.mem_of_getElem? (i := 149) rfl)) rfl
theorem wse_X7_fault : Cond.selects RX7 yX7_fault yX7_fault ∈ TB := TB_of (tb_4 (List.mem_of_getElem? (i := 150) rfl)) rfl
theorem wcd_X7_fault : Cond.code yX7_fault cX7_fault 1 (some .int) ∈ TB := TB_of (tb_4 (List.mem_of_getElem? (i := 151) rfl)) rfl
theorem wml_RX7_182 : Cond.methodLink RX7 182 yX7_isText ∈ TB := TB_of (tb_4 (List.mem_of_getElem? (i := 152) rfl)) rfl
theorem wim_X7_isText : Cond.instanceMethod yX7_isText ∈ TB := TB_of (tb_4 (List.mem_of_getElem? (i := 154) rfl)) rfl
theorem wcd_X7_isText : Cond.code yX7_isText cX7_isText 1 (some .boolean) ∈ TB := TB_of (tb_4 (List.mem_of_getElem? (i := 155) rfl)) rfl
theorem wml_RX7_179 : Cond.methodLink RX7 179 yX7_takesOrder ∈ TB := TB_of (tb_4 (List.mem_of_getElem? (i := 156) rfl)) rfl
theorem wim_X7_takesOrder : Cond.instanceMethod yX7_takesOrder ∈ TB := TB_of (tb_4 (List.mem_of_getElem? (i := 158) rfl)) rfl
theorem wcd_X7_takesOrder : Cond.code yX7_takesOrder cX7_takesOrder 2 none ∈ TB := TB_of (tb_4 (List.mem_of_getElem? (i := 159) rfl)) rfl
theorem wml_RX7_155 : Cond.methodLink RX7 155 yX7_here ∈ TB := TB_of (tb_4 (List.mem_of_getElem? (i := 160) rfl)) rfl
theorem wim_X7_here : Cond.instanceMethod yX7_here ∈ TB := TB_of (tb_4 (List.mem_of_getElem? (i := 162) rfl)) rfl
theorem wcd_X7_here : Cond.code yX7_here cX7_here 1 (some .int) ∈ TB := TB_of (tb_4 (List.mem_of_getElem? (i := 163) rfl)) rfl
theorem wml_RX7_162 : Cond.methodLink RX7 162 yX7_takes ∈ TB := TB_of (tb_4 (List.mem_of_getElem? (i := 164) rfl)) rfl
theorem wim_X7_takes : Cond.instanceMethod yX7_takes ∈ TB := TB_of (tb_4 (List.mem_of_getElem? (i := 166) rfl)) rfl
theorem wcd_X7_takes : Cond.code yX7_takes cX7_takes 2 none ∈ TB := TB_of (tb_4 (List.mem_of_getElem? (i := 167) rfl)) rfl
theorem wml_RX7_172 : Cond.methodLink RX7 172 yX7_takesNumber ∈ TB := TB_of (tb_4 (List.mem_of_getElem? (i := 168) rfl)) rfl
theorem wim_X7_takesNumber : Cond.instanceMethod yX7_takesNumber ∈ TB := TB_of (tb_4 (List.mem_of_getElem? (i := 170) rfl)) rfl
theorem wcd_X7_takesNumber : Cond.code yX7_takesNumber cX7_takesNumber 4 (some .int) ∈ TB := TB_of (tb_4 (List.mem_of_getElem? (i := 171) rfl)) rfl
theorem wml_RX7_158 : Cond.methodLink RX7 158 yX7_isNumber ∈ TB := TB_of (tb_4 (List.mem_of_getElem? (i := 172) rfl)) rfl
theorem wst_X7_isNumber : Cond.static yX7_isNumber ∈ TB := TB_of (tb_4 (List.mem_of_getElem? (i := 173) rfl)) rfl
theorem wcd_X7_isNumber : Cond.code yX7_isNumber cX7_isNumber 2 (some .boolean) ∈ TB := TB_of (tb_4 (List.mem_of_getElem? (i := 174) rfl)) rfl
theorem wml_RL_72 : Cond.methodLink RL 72 yX7_run ∈ TB := TB_of (tb_4 (List.mem_of_getElem? (i := 175) rfl)) rfl
theorem wim_X7_run : Cond.instanceMethod yX7_run ∈ TB := TB_of (tb_4 (List.mem_of_getElem? (i := 176) rfl)) rfl
theorem wse_X7_run : Cond.selects RX7 yX7_run yX7_run ∈ TB := TB_of (tb_4 (List.mem_of_getElem? (i := 177) rfl)) rfl
theorem wcd_X7_run : Cond.code yX7_run cX7_run 4 (some .int) ∈ TB := TB_of (tb_4 (List.mem_of_getElem? (i := 178) rfl)) rfl
theorem wml_RX7_189 : Cond.methodLink RX7 189 yX7_doesOrder ∈ TB := TB_of (tb_4 (List.mem_of_getElem? (i := 179) rfl)) rfl
theorem wim_X7_doesOrder : Cond.instanceMethod yX7_doesOrder ∈ TB := TB_of (tb_4 (List.mem_of_getElem? (i := 181) rfl)) rfl
theorem wcd_X7_doesOrder : Cond.code yX7_doesOrder cX7_doesOrder 1 (some .int) ∈ TB := TB_of (tb_4 (List.mem_of_getElem? (i := 182) rfl)) rfl
theorem wml_RL_76 : Cond.methodLink RL 76 yX7_why ∈ TB := TB_of (tb_4 (List.mem_of_getElem? (i := 183) rfl)) rfl
theorem wim_X7_why : Cond.instanceMethod yX7_why ∈ TB := TB_of (tb_4 (List.mem_of_getElem? (i := 184) rfl)) rfl
theorem wse_X7_why : Cond.selects RX7 yX7_why yX7_why ∈ TB := TB_of (tb_4 (List.mem_of_getElem? (i := 185) rfl)) rfl
theorem wcd_X7_why : Cond.code yX7_why cX7_why 2 (some .int) ∈ TB := TB_of (tb_4 (List.mem_of_getElem? (i := 186) rfl)) rfl
theorem wml_RL_80 : Cond.methodLink RL 80 yX7_roof ∈ TB := TB_of (tb_4 (List.mem_of_getElem? (i := 187) rfl)) rfl
theorem wim_X7_roof : Cond.instanceMethod yX7_roof ∈ TB := TB_of (tb_4 (List.mem_of_getElem? (i := 188) rfl)) rfl
theorem wse_X7_roof : Cond.selects RX7 yX7_roof yX7_roof ∈ TB := TB_of (tb_4 (List.mem_of_getElem? (i := 189) rfl)) rfl
theorem wcd_X7_roof : Cond.code yX7_roof cX7_roof 3 (some .int) ∈ TB := TB_of (tb_4 (List.mem_of_getElem? (i := 190) rfl)) rfl
theorem wml_RX7_192 : Cond.methodLink RX7 192 yX7_chimneysOver ∈ TB := TB_of (tb_4 (List.mem_of_getElem? (i := 191) rfl)) rfl
theorem wim_X7_chimneysOver : Cond.instanceMethod yX7_chimneysOver ∈ TB := TB_of (tb_4 (List.mem_of_getElem? (i := 193) rfl)) rfl
theorem wcd_X7_chimneysOver : Cond.code yX7_chimneysOver cX7_chimneysOver 4 (some .int) ∈ TB := TB_of (tb_4 (List.mem_of_getElem? (i := 194) rfl)) rfl
theorem wml_RX7_195 : Cond.methodLink RX7 195 yX7_ownersAt ∈ TB := TB_of (tb_4 (List.mem_of_getElem? (i := 195) rfl)) rfl
theorem wim_X7_ownersAt : Cond.instanceMethod yX7_ownersAt ∈ TB := TB_of (tb_4 (List.mem_of_getElem? (i := 197) rfl)) rfl
theorem wcd_X7_ownersAt : Cond.code yX7_ownersAt cX7_ownersAt 4 (some .int) ∈ TB := TB_of (tb_4 (List.mem_of_getElem? (i := 198) rfl)) rfl
theorem wml_RX7_198 : Cond.methodLink RX7 198 yX7_strongAt ∈ TB := TB_of (tb_4 (List.mem_of_getElem? (i := 199) rfl)) rfl
theorem wim_X7_strongAt : Cond.instanceMethod yX7_strongAt ∈ TB := TB_of (tb_4 (List.mem_of_getElem? (i := 201) rfl)) rfl
theorem wcd_X7_strongAt : Cond.code yX7_strongAt cX7_strongAt 4 (some .int) ∈ TB := TB_of (tb_4 (List.mem_of_getElem? (i := 202) rfl)) rfl
theorem wml_RX7_201 : Cond.methodLink RX7 201 yX7_linesAt ∈ TB := TB_of (tb_4 (List.mem_of_getElem? (i := 203) rfl)) rfl
theorem wim_X7_linesAt : Cond.instanceMethod yX7_linesAt ∈ TB := TB_of (tb_4 (List.mem_of_getElem? (i := 205) rfl)) rfl
theorem wcd_X7_linesAt : Cond.code yX7_linesAt cX7_linesAt 4 (some .int) ∈ TB := TB_of (tb_4 (List.mem_of_getElem? (i := 206) rfl)) rfl
theorem wml_RX7_204 : Cond.methodLink RX7 204 yX7_comeTo ∈ TB := TB_of (tb_4 (List.mem_of_getElem? (i := 207) rfl)) rfl
theorem wim_X7_comeTo : Cond.instanceMethod yX7_comeTo ∈ TB := TB_of (tb_4 (List.mem_of_getElem? (i := 209) rfl)) rfl
theorem wcd_X7_comeTo : Cond.code yX7_comeTo cX7_comeTo 8 (some .int) ∈ TB := TB_of (tb_4 (List.mem_of_getElem? (i := 210) rfl)) rfl
theorem wml_RL_84 : Cond.methodLink RL 84 yX7_gangway ∈ TB := TB_of (tb_4 (List.mem_of_getElem? (i := 211) rfl)) rfl
theorem wim_X7_gangway : Cond.instanceMethod yX7_gangway ∈ TB := TB_of (tb_4 (List.mem_of_getElem? (i := 212) rfl)) rfl
theorem wse_X7_gangway : Cond.selects RX7 yX7_gangway yX7_gangway ∈ TB := TB_of (tb_4 (List.mem_of_getElem? (i := 213) rfl)) rfl
theorem wcd_X7_gangway : Cond.code yX7_gangway cX7_gangway 3 (some .int) ∈ TB := TB_of (tb_4 (List.mem_of_getElem? (i := 214) rfl)) rfl
theorem wml_RL_88 : Cond.methodLink RL 88 yX7_ownerOf ∈ TB := TB_of (tb_4 (List.mem_of_getElem? (i := 215) rfl)) rfl
theorem wim_X7_ownerOf : Cond.instanceMethod yX7_ownerOf ∈ TB := TB_of (tb_4 (List.mem_of_getElem? (i := 216) rfl)) rfl
theorem wse_X7_ownerOf : Cond.selects RX7 yX7_ownerOf yX7_ownerOf ∈ TB := TB_of (tb_4 (List.mem_of_getElem? (i := 217) rfl)) rfl
theorem wcd_X7_ownerOf : Cond.code yX7_ownerOf cX7_ownerOf 3 (some .int) ∈ TB := TB_of (tb_4 (List.mem_of_getElem? (i := 218) rfl)) rfl
theorem wml_RX7_207 : Cond.methodLink RX7 207 yX7_linesOf ∈ TB := TB_of (tb_4 (List.mem_of_getElem? (i := 219) rfl)) rfl
theorem wim_X7_linesOf : Cond.instanceMethod yX7_linesOf ∈ TB := TB_of (tb_4 (List.mem_of_getElem? (i := 221) rfl)) rfl
theorem wcd_X7_linesOf : Cond.code yX7_linesOf cX7_linesOf 5 (some .int) ∈ TB := TB_of (tb_4 (List.mem_of_getElem? (i := 222) rfl)) rfl
theorem wml_RX7_211 : Cond.methodLink RX7 211 yX7_walksNow ∈ TB := TB_of (tb_4 (List.mem_of_getElem? (i := 223) rfl)) rfl
theorem wim_X7_walksNow : Cond.instanceMethod yX7_walksNow ∈ TB := TB_of (tb_4 (List.mem_of_getElem? (i := 225) rfl)) rfl
theorem wcd_X7_walksNow : Cond.code yX7_walksNow cX7_walksNow 5 (some .int) ∈ TB := TB_of (tb_4 (List.mem_of_getElem? (i := 226) rfl)) rfl
theorem wml_RX7_214 : Cond.methodLink RX7 214 yX7_hangsNow ∈ TB := TB_of (tb_4 (List.mem_of_getElem? (i := 227) rfl)) rfl
theorem wim_X7_hangsNow : Cond.instanceMethod yX7_hangsNow ∈ TB := TB_of (tb_4 (List.mem_of_getElem? (i := 229) rfl)) rfl
theorem wcd_X7_hangsNow : Cond.code yX7_hangsNow cX7_hangsNow 4 (some .int) ∈ TB := TB_of (tb_4 (List.mem_of_getElem? (i := 230) rfl)) rfl
theorem wml_RL_92 : Cond.methodLink RL 92 yX7_whyNotHang ∈ TB := TB_of (tb_4 (List.mem_of_getElem? (i := 231) rfl)) rfl
theorem wim_X7_whyNotHang : Cond.instanceMethod yX7_whyNotHang ∈ TB := TB_of (tb_4 (List.mem_of_getElem? (i := 232) rfl)) rfl
theorem wse_X7_whyNotHang : Cond.selects RX7 yX7_whyNotHang yX7_whyNotHang ∈ TB := TB_of (tb_4 (List.mem_of_getElem? (i := 233) rfl)) rfl
theorem wcd_X7_whyNotHang : Cond.code yX7_whyNotHang cX7_whyNotHang 3 (some .int) ∈ TB := TB_of (tb_4 (List.mem_of_getElem? (i := 234) rfl)) rfl
theorem wml_RL_97 : Cond.methodLink RL 97 yX7_strongest ∈ TB := TB_of (tb_4 (List.mem_of_getElem? (i := 235) rfl)) rfl
theorem wim_X7_strongest : Cond.instanceMethod yX7_strongest ∈ TB := TB_of (tb_4 (List.mem_of_getElem? (i := 236) rfl)) rfl
theorem wse_X7_strongest : Cond.selects RX7 yX7_strongest yX7_strongest ∈ TB := TB_of (tb_4 (List.mem_of_getElem? (i := 237) rfl)) rfl
theorem wcd_X7_strongest : Cond.code yX7_strongest cX7_strongest 4 (some .int) ∈ TB := TB_of (tb_4 (List.mem_of_getElem? (i := 238) rfl)) rfl
theorem wml_RX7_217 : Cond.methodLink RX7 217 yX7_strengthOf ∈ TB := TB_of (tb_4 (List.mem_of_getElem? (i := 239) rfl)) rfl
theorem wim_X7_strengthOf : Cond.instanceMethod yX7_strengthOf ∈ TB := TB_of (tb_5 (List.mem_of_getElem? (i := 1) rfl)) rfl
theorem wcd_X7_strengthOf : Cond.code yX7_strengthOf cX7_strengthOf 5 (some .int) ∈ TB := TB_of (tb_5 (List.mem_of_getElem? (i := 2) rfl)) rfl
theorem wml_RL_101 : Cond.methodLink RL 101 yX7_steps ∈ TB := TB_of (tb_5 (List.mem_of_getElem? (i := 3) rfl)) rfl
theorem wim_X7_steps : Cond.instanceMethod yX7_steps ∈ TB := TB_of (tb_5 (List.mem_of_getElem? (i := 4) rfl)) rfl
theorem wse_X7_steps : Cond.selects RX7 yX7_steps yX7_steps ∈ TB := TB_of (tb_5 (List.mem_of_getElem? (i := 5) rfl)) rfl
theorem wcd_X7_steps : Cond.code yX7_steps cX7_steps 3 (some .int) ∈ TB := TB_of (tb_5 (List.mem_of_getElem? (i := 6) rfl)) rfl
theorem wml_RX7_223 : Cond.methodLink RX7 223 yX7_stepsOf ∈ TB := TB_of (tb_5 (List.mem_of_getElem? (i := 7) rfl)) rfl
theorem wim_X7_stepsOf : Cond.instanceMethod yX7_stepsOf ∈ TB := TB_of (tb_5 (List.mem_of_getElem? (i := 9) rfl)) rfl
theorem wcd_X7_stepsOf : Cond.code yX7_stepsOf cX7_stepsOf 5 (some .int) ∈ TB := TB_of (tb_5 (List.mem_of_getElem? (i := 10) rfl)) rfl
theorem wml_RX7_220 : Cond.methodLink RX7 220 yX7_furtherFrom ∈ TB := TB_of (tb_5 (List.mem_of_getElem? (i := 11) rfl)) rfl
theorem wim_X7_furtherFrom : Cond.instanceMethod yX7_furtherFrom ∈ TB := TB_of (tb_5 (List.mem_of_getElem? (i := 13) rfl)) rfl
theorem wcd_X7_furtherFrom : Cond.code yX7_furtherFrom cX7_furtherFrom 7 (some .int) ∈ TB := TB_of (tb_5 (List.mem_of_getElem? (i := 14) rfl)) rfl
theorem wml_RL_105 : Cond.methodLink RL 105 yX7_count ∈ TB := TB_of (tb_5 (List.mem_of_getElem? (i := 15) rfl)) rfl
theorem wim_X7_count : Cond.instanceMethod yX7_count ∈ TB := TB_of (tb_5 (List.mem_of_getElem? (i := 16) rfl)) rfl
theorem wse_X7_count : Cond.selects RX7 yX7_count yX7_count ∈ TB := TB_of (tb_5 (List.mem_of_getElem? (i := 17) rfl)) rfl
theorem wcd_X7_count : Cond.code yX7_count cX7_count 2 (some .int) ∈ TB := TB_of (tb_5 (List.mem_of_getElem? (i := 18) rfl)) rfl
theorem wml_RX7_226 : Cond.methodLink RX7 226 yX7_sumOf ∈ TB := TB_of (tb_5 (List.mem_of_getElem? (i := 19) rfl)) rfl
theorem wim_X7_sumOf : Cond.instanceMethod yX7_sumOf ∈ TB := TB_of (tb_5 (List.mem_of_getElem? (i := 21) rfl)) rfl
theorem wcd_X7_sumOf : Cond.code yX7_sumOf cX7_sumOf 4 (some .int) ∈ TB := TB_of (tb_5 (List.mem_of_getElem? (i := 22) rfl)) rfl
theorem wml_RX7_229 : Cond.methodLink RX7 229 yX7_smokedBy ∈ TB := TB_of (tb_5 (List.mem_of_getElem? (i := 23) rfl)) rfl
theorem wim_X7_smokedBy : Cond.instanceMethod yX7_smokedBy ∈ TB := TB_of (tb_5 (List.mem_of_getElem? (i := 25) rfl)) rfl
theorem wcd_X7_smokedBy : Cond.code yX7_smokedBy cX7_smokedBy 5 (some .int) ∈ TB := TB_of (tb_5 (List.mem_of_getElem? (i := 26) rfl)) rfl
theorem wml_RL_110 : Cond.methodLink RL 110 yX7_cleanness ∈ TB := TB_of (tb_5 (List.mem_of_getElem? (i := 27) rfl)) rfl
theorem wim_X7_cleanness : Cond.instanceMethod yX7_cleanness ∈ TB := TB_of (tb_5 (List.mem_of_getElem? (i := 28) rfl)) rfl
theorem wse_X7_cleanness : Cond.selects RX7 yX7_cleanness yX7_cleanness ∈ TB := TB_of (tb_5 (List.mem_of_getElem? (i := 29) rfl)) rfl
theorem wcd_X7_cleanness : Cond.code yX7_cleanness cX7_cleanness 1 (some .double) ∈ TB := TB_of (tb_5 (List.mem_of_getElem? (i := 30) rfl)) rfl
theorem wml_RL_114 : Cond.methodLink RL 114 yX7_ifWind ∈ TB := TB_of (tb_5 (List.mem_of_getElem? (i := 31) rfl)) rfl
theorem wim_X7_ifWind : Cond.instanceMethod yX7_ifWind ∈ TB := TB_of (tb_5 (List.mem_of_getElem? (i := 32) rfl)) rfl
theorem wse_X7_ifWind : Cond.selects RX7 yX7_ifWind yX7_ifWind ∈ TB := TB_of (tb_5 (List.mem_of_getElem? (i := 33) rfl)) rfl
theorem wcd_X7_ifWind : Cond.code yX7_ifWind cX7_ifWind 2 (some .int) ∈ TB := TB_of (tb_5 (List.mem_of_getElem? (i := 34) rfl)) rfl
theorem wml_RL_118 : Cond.methodLink RL 118 yX7_bestWind ∈ TB := TB_of (tb_5 (List.mem_of_getElem? (i := 35) rfl)) rfl
theorem wim_X7_bestWind : Cond.instanceMethod yX7_bestWind ∈ TB := TB_of (tb_5 (List.mem_of_getElem? (i := 36) rfl)) rfl
theorem wse_X7_bestWind : Cond.selects RX7 yX7_bestWind yX7_bestWind ∈ TB := TB_of (tb_5 (List.mem_of_getElem? (i := 37) rfl)) rfl
theorem wcd_X7_bestWind : Cond.code yX7_bestWind cX7_bestWind 3 (some .int) ∈ TB := TB_of (tb_5 (List.mem_of_getElem? (i := 38) rfl)) rfl
theorem wml_RL_122 : Cond.methodLink RL 122 yX7_ifDays ∈ TB := TB_of (tb_5 (List.mem_of_getElem? (i := 39) rfl)) rfl
theorem wim_X7_ifDays : Cond.instanceMethod yX7_ifDays ∈ TB := TB_of (tb_5 (List.mem_of_getElem? (i := 40) rfl)) rfl
theorem wse_X7_ifDays : Cond.selects RX7 yX7_ifDays yX7_ifDays ∈ TB := TB_of (tb_5 (List.mem_of_getElem? (i := 41) rfl)) rfl
theorem wcd_X7_ifDays : Cond.code yX7_ifDays cX7_ifDays 5 (some .int) ∈ TB := TB_of (tb_5 (List.mem_of_getElem? (i := 42) rfl)) rfl
theorem wml_RL_126 : Cond.methodLink RL 126 yX7_bestPlace ∈ TB := TB_of (tb_5 (List.mem_of_getElem? (i := 43) rfl)) rfl
theorem wim_X7_bestPlace : Cond.instanceMethod yX7_bestPlace ∈ TB := TB_of (tb_5 (List.mem_of_getElem? (i := 44) rfl)) rfl
theorem wse_X7_bestPlace : Cond.selects RX7 yX7_bestPlace yX7_bestPlace ∈ TB := TB_of (tb_5 (List.mem_of_getElem? (i := 45) rfl)) rfl
theorem wcd_X7_bestPlace : Cond.code yX7_bestPlace cX7_bestPlace 6 (some .int) ∈ TB := TB_of (tb_5 (List.mem_of_getElem? (i := 46) rfl)) rfl
theorem wml_RX7_232 : Cond.methodLink RX7 232 yX7_windsOver ∈ TB := TB_of (tb_5 (List.mem_of_getElem? (i := 47) rfl)) rfl
theorem wim_X7_windsOver : Cond.instanceMethod yX7_windsOver ∈ TB := TB_of (tb_5 (List.mem_of_getElem? (i := 49) rfl)) rfl
theorem wcd_X7_windsOver : Cond.code yX7_windsOver cX7_windsOver 4 (some .int) ∈ TB := TB_of (tb_5 (List.mem_of_getElem? (i := 50) rfl)) rfl
theorem wml_RL_130 : Cond.methodLink RL 130 yX7_undo ∈ TB := TB_of (tb_5 (List.mem_of_getElem? (i := 51) rfl)) rfl
theorem wim_X7_undo : Cond.instanceMethod yX7_undo ∈ TB := TB_of (tb_5 (List.mem_of_getElem? (i := 52) rfl)) rfl
theorem wse_X7_undo : Cond.selects RX7 yX7_undo yX7_undo ∈ TB := TB_of (tb_5 (List.mem_of_getElem? (i := 53) rfl)) rfl
theorem wcd_X7_undo : Cond.code yX7_undo cX7_undo 1 (some .int) ∈ TB := TB_of (tb_5 (List.mem_of_getElem? (i := 54) rfl)) rfl
theorem wml_RL_134 : Cond.methodLink RL 134 yX7_save ∈ TB := TB_of (tb_5 (List.mem_of_getElem? (i := 55) rfl)) rfl
theorem wim_X7_save : Cond.instanceMethod yX7_save ∈ TB := TB_of (tb_5 (List.mem_of_getElem? (i := 56) rfl)) rfl
theorem wse_X7_save : Cond.selects RX7 yX7_save yX7_save ∈ TB := TB_of (tb_5 (List.mem_of_getElem? (i := 57) rfl)) rfl
theorem wcd_X7_save : Cond.code yX7_save cX7_save 1 (some .int) ∈ TB := TB_of (tb_5 (List.mem_of_getElem? (i := 58) rfl)) rfl
theorem wml_RL_138 : Cond.methodLink RL 138 yX7_restore ∈ TB := TB_of (tb_5 (List.mem_of_getElem? (i := 59) rfl)) rfl
theorem wim_X7_restore : Cond.instanceMethod yX7_restore ∈ TB := TB_of (tb_5 (List.mem_of_getElem? (i := 60) rfl)) rfl
theorem wse_X7_restore : Cond.selects RX7 yX7_restore yX7_restore ∈ TB := TB_of (tb_5 (List.mem_of_getElem? (i := 61) rfl)) rfl
theorem wcd_X7_restore : Cond.code yX7_restore cX7_restore 1 (some .int) ∈ TB := TB_of (tb_5 (List.mem_of_getElem? (i := 62) rfl)) rfl
theorem wse_X2_readOrder : Cond.selects RX2 yX2_readOrder yX2_readOrder ∈ TB := TB_of (tb_0 (List.mem_of_getElem? (i := 0) rfl)) rfl
theorem wse_X2_readOwner : Cond.selects RX2 yX2_readOwner yX2_readOwner ∈ TB := TB_of (tb_0 (List.mem_of_getElem? (i := 1) rfl)) rfl
theorem wse_X2_digitAt : Cond.selects RX2 yX2_digitAt yX2_digitAt ∈ TB := TB_of (tb_0 (List.mem_of_getElem? (i := 2) rfl)) rfl
theorem wse_X2_readSign : Cond.selects RX2 yX2_readSign yX2_readSign ∈ TB := TB_of (tb_0 (List.mem_of_getElem? (i := 3) rfl)) rfl
theorem wse_X2_readNumber : Cond.selects RX2 yX2_readNumber yX2_readNumber ∈ TB := TB_of (tb_0 (List.mem_of_getElem? (i := 4) rfl)) rfl
theorem wse_X6_carryOutOrder : Cond.selects RX6 yX6_carryOutOrder yX6_carryOutOrder ∈ TB := TB_of (tb_0 (List.mem_of_getElem? (i := 5) rfl)) rfl
theorem wse_X6_keepStop : Cond.selects RX6 yX6_keepStop yX6_keepStop ∈ TB := TB_of (tb_0 (List.mem_of_getElem? (i := 6) rfl)) rfl
theorem wse_X5_joinOver : Cond.selects RX5 yX5_joinOver yX5_joinOver ∈ TB := TB_of (tb_0 (List.mem_of_getElem? (i := 7) rfl)) rfl
theorem wse_X5_rename : Cond.selects RX5 yX5_rename yX5_rename ∈ TB := TB_of (tb_0 (List.mem_of_getElem? (i := 8) rfl)) rfl
theorem wse_X5_spread : Cond.selects RX5 yX5_spread yX5_spread ∈ TB := TB_of (tb_0 (List.mem_of_getElem? (i := 9) rfl)) rfl
theorem wse_X5_raise : Cond.selects RX5 yX5_raise yX5_raise ∈ TB := TB_of (tb_0 (List.mem_of_getElem? (i := 10) rfl)) rfl
theorem wse_X5_oneWalkFurther : Cond.selects RX5 yX5_oneWalkFurther yX5_oneWalkFurther ∈ TB := TB_of (tb_0 (List.mem_of_getElem? (i := 11) rfl)) rfl
theorem wse_X7_records : Cond.selects RX7 yX7_records yX7_records ∈ TB := TB_of (tb_0 (List.mem_of_getElem? (i := 12) rfl)) rfl
theorem wse_X7_of : Cond.selects RX7 yX7_of yX7_of ∈ TB := TB_of (tb_0 (List.mem_of_getElem? (i := 13) rfl)) rfl
theorem wse_X7_lays : Cond.selects RX7 yX7_lays yX7_lays ∈ TB := TB_of (tb_0 (List.mem_of_getElem? (i := 14) rfl)) rfl
theorem wse_X7_hasLine : Cond.selects RX7 yX7_hasLine yX7_hasLine ∈ TB := TB_of (tb_0 (List.mem_of_getElem? (i := 15) rfl)) rfl
theorem wse_X7_removes : Cond.selects RX7 yX7_removes yX7_removes ∈ TB := TB_of (tb_0 (List.mem_of_getElem? (i := 16) rfl)) rfl
theorem wse_X7_goChimney : Cond.selects RX7 yX7_goChimney yX7_goChimney ∈ TB := TB_of (tb_0 (List.mem_of_getElem? (i := 17) rfl)) rfl
theorem wse_X7_smoke : Cond.selects RX7 yX7_smoke yX7_smoke ∈ TB := TB_of (tb_0 (List.mem_of_getElem? (i := 18) rfl)) rfl
theorem wse_X7_smokeBy : Cond.selects RX7 yX7_smokeBy yX7_smokeBy ∈ TB := TB_of (tb_0 (List.mem_of_getElem? (i := 19) rfl)) rfl
theorem wse_X7_smokeOf : Cond.selects RX7 yX7_smokeOf yX7_smokeOf ∈ TB := TB_of (tb_0 (List.mem_of_getElem? (i := 20) rfl)) rfl
theorem wse_X7_ofOwner : Cond.selects RX7 yX7_ofOwner yX7_ofOwner ∈ TB := TB_of (tb_0 (List.mem_of_getElem? (i := 21) rfl)) rfl
theorem wse_X7_goHang : Cond.selects RX7 yX7_goHang yX7_goHang ∈ TB := TB_of (tb_0 (List.mem_of_getElem? (i := 22) rfl)) rfl
theorem wse_X7_reasonToHang : Cond.selects RX7 yX7_reasonToHang yX7_reasonToHang ∈ TB := TB_of (tb_0 (List.mem_of_getElem? (i := 23) rfl)) rfl
theorem wse_X7_bothOf : Cond.selects RX7 yX7_bothOf yX7_bothOf ∈ TB := TB_of (tb_0 (List.mem_of_getElem? (i := 24) rfl)) rfl
theorem wse_X7_nearCoops : Cond.selects RX7 yX7_nearCoops yX7_nearCoops ∈ TB := TB_of (tb_0 (List.mem_of_getElem? (i := 25) rfl)) rfl
theorem wse_X7_refuses : Cond.selects RX7 yX7_refuses yX7_refuses ∈ TB := TB_of (tb_0 (List.mem_of_getElem? (i := 26) rfl)) rfl
theorem wse_X7_linesNow : Cond.selects RX7 yX7_linesNow yX7_linesNow ∈ TB := TB_of (tb_0 (List.mem_of_getElem? (i := 27) rfl)) rfl
theorem wse_X7_goTake : Cond.selects RX7 yX7_goTake yX7_goTake ∈ TB := TB_of (tb_0 (List.mem_of_getElem? (i := 28) rfl)) rfl
theorem wse_X7_goWalk : Cond.selects RX7 yX7_goWalk yX7_goWalk ∈ TB := TB_of (tb_0 (List.mem_of_getElem? (i := 29) rfl)) rfl
theorem wse_X7_reasonToWalk : Cond.selects RX7 yX7_reasonToWalk yX7_reasonToWalk ∈ TB := TB_of (tb_0 (List.mem_of_getElem? (i := 30) rfl)) rfl
theorem wse_X7_goDay : Cond.selects RX7 yX7_goDay yX7_goDay ∈ TB := TB_of (tb_0 (List.mem_of_getElem? (i := 31) rfl)) rfl
theorem wse_X7_cleanNow : Cond.selects RX7 yX7_cleanNow yX7_cleanNow ∈ TB := TB_of (tb_0 (List.mem_of_getElem? (i := 32) rfl)) rfl
theorem wse_X7_isClean : Cond.selects RX7 yX7_isClean yX7_isClean ∈ TB := TB_of (tb_0 (List.mem_of_getElem? (i := 33) rfl)) rfl
theorem wse_X7_isText : Cond.selects RX7 yX7_isText yX7_isText ∈ TB := TB_of (tb_0 (List.mem_of_getElem? (i := 34) rfl)) rfl
theorem wse_X7_takesOrder : Cond.selects RX7 yX7_takesOrder yX7_takesOrder ∈ TB := TB_of (tb_0 (List.mem_of_getElem? (i := 35) rfl)) rfl
theorem wse_X7_here : Cond.selects RX7 yX7_here yX7_here ∈ TB := TB_of (tb_0 (List.mem_of_getElem? (i := 36) rfl)) rfl
theorem wse_X7_takes : Cond.selects RX7 yX7_takes yX7_takes ∈ TB := TB_of (tb_0 (List.mem_of_getElem? (i := 37) rfl)) rfl
theorem wse_X7_takesNumber : Cond.selects RX7 yX7_takesNumber yX7_takesNumber ∈ TB := TB_of (tb_0 (List.mem_of_getElem? (i := 38) rfl)) rfl
theorem wse_X7_doesOrder : Cond.selects RX7 yX7_doesOrder yX7_doesOrder ∈ TB := TB_of (tb_0 (List.mem_of_getElem? (i := 39) rfl)) rfl
theorem wse_X7_chimneysOver : Cond.selects RX7 yX7_chimneysOver yX7_chimneysOver ∈ TB := TB_of (tb_0 (List.mem_of_getElem? (i := 40) rfl)) rfl
theorem wse_X7_ownersAt : Cond.selects RX7 yX7_ownersAt yX7_ownersAt ∈ TB := TB_of (tb_0 (List.mem_of_getElem? (i := 41) rfl)) rfl
theorem wse_X7_strongAt : Cond.selects RX7 yX7_strongAt yX7_strongAt ∈ TB := TB_of (tb_0 (List.mem_of_getElem? (i := 42) rfl)) rfl
theorem wse_X7_linesAt : Cond.selects RX7 yX7_linesAt yX7_linesAt ∈ TB := TB_of (tb_0 (List.mem_of_getElem? (i := 43) rfl)) rfl
theorem wse_X7_comeTo : Cond.selects RX7 yX7_comeTo yX7_comeTo ∈ TB := TB_of (tb_0 (List.mem_of_getElem? (i := 44) rfl)) rfl
theorem wse_X7_linesOf : Cond.selects RX7 yX7_linesOf yX7_linesOf ∈ TB := TB_of (tb_0 (List.mem_of_getElem? (i := 45) rfl)) rfl
theorem wse_X7_walksNow : Cond.selects RX7 yX7_walksNow yX7_walksNow ∈ TB := TB_of (tb_0 (List.mem_of_getElem? (i := 46) rfl)) rfl
theorem wse_X7_hangsNow : Cond.selects RX7 yX7_hangsNow yX7_hangsNow ∈ TB := TB_of (tb_0 (List.mem_of_getElem? (i := 47) rfl)) rfl
theorem wse_X7_strengthOf : Cond.selects RX7 yX7_strengthOf yX7_strengthOf ∈ TB := TB_of (tb_0 (List.mem_of_getElem? (i := 48) rfl)) rfl
theorem wse_X7_stepsOf : Cond.selects RX7 yX7_stepsOf yX7_stepsOf ∈ TB := TB_of (tb_0 (List.mem_of_getElem? (i := 49) rfl)) rfl
theorem wse_X7_furtherFrom : Cond.selects RX7 yX7_furtherFrom yX7_furtherFrom ∈ TB := TB_of (tb_0 (List.mem_of_getElem? (i := 50) rfl)) rfl
theorem wse_X7_sumOf : Cond.selects RX7 yX7_sumOf yX7_sumOf ∈ TB := TB_of (tb_0 (List.mem_of_getElem? (i := 51) rfl)) rfl
theorem wse_X7_smokedBy : Cond.selects RX7 yX7_smokedBy yX7_smokedBy ∈ TB := TB_of (tb_0 (List.mem_of_getElem? (i := 52) rfl)) rfl
theorem wse_X7_windsOver : Cond.selects RX7 yX7_windsOver yX7_windsOver ∈ TB := TB_of (tb_0 (List.mem_of_getElem? (i := 53) rfl)) rfl
theorem inT_X0 : ∀ w ∈ u_ws RX0 TX0 19, w ∈ TB := List.forall_mem_cons.mpr ⟨wla_RX0_borne, List.forall_mem_cons.mpr ⟨wla_RX0_hangers, List.forall_mem_cons.mpr ⟨wla_RX0_soot, List.forall_mem_cons.mpr ⟨wla_RX0_spots, List.forall_mem_cons.mpr ⟨wla_RX0_weights, List.forall_mem_cons.mpr ⟨wla_RX0_keys, List.forall_mem_cons.mpr ⟨wla_RX0_places, List.forall_mem_cons.mpr ⟨wla_RX0_walks, List.forall_mem_cons.mpr ⟨wla_RX0_truces, List.forall_mem_cons.mpr ⟨wla_RX0_chimneys, List.forall_mem_cons.mpr ⟨wla_RX0_coops, List.forall_mem_cons.mpr ⟨wla_RX0_windTo, List.forall_mem_cons.mpr ⟨wla_RX0_smokeReach, List.forall_mem_cons.mpr ⟨wla_RX0_dayNumber, List.forall_mem_cons.mpr ⟨wla_RX0_lot, List.forall_mem_cons.mpr ⟨wla_RX0_hung, List.forall_mem_cons.mpr ⟨wla_RX0_taken, List.forall_mem_cons.mpr ⟨wla_RX0_fallen, List.forall_mem_cons.mpr ⟨wla_RX0_refused, fun _ h => absurd h List.not_mem_nil⟩⟩⟩⟩⟩⟩⟩⟩⟩⟩⟩⟩⟩⟩⟩⟩⟩⟩⟩
theorem inT_X1 : ∀ w ∈ u_ws RX1 TX1 2, w ∈ TB := List.forall_mem_cons.mpr ⟨wla_RX1_states, List.forall_mem_cons.mpr ⟨wla_RX1_size, fun _ h => absurd h List.not_mem_nil⟩⟩
theorem inT_X2 : ∀ w ∈ u_ws RX2 TX2 6, w ∈ TB := List.forall_mem_cons.mpr ⟨wla_RX2_text, List.forall_mem_cons.mpr ⟨wla_RX2_position, List.forall_mem_cons.mpr ⟨wla_RX2_start, List.forall_mem_cons.mpr ⟨wla_RX2_letter, List.forall_mem_cons.mpr ⟨wla_RX2_orderOwner, List.forall_mem_cons.mpr ⟨wla_RX2_orderNumber, fun _ h => absurd h List.not_mem_nil⟩⟩⟩⟩⟩⟩
theorem inT_X3 : ∀ w ∈ u_ws RX3 TX3 2, w ∈ TB := List.forall_mem_cons.mpr ⟨wla_RX3_signs, List.forall_mem_cons.mpr ⟨wla_RX3_length, fun _ h => absurd h List.not_mem_nil⟩⟩
theorem inT_X5 : ∀ w ∈ u_ws RX5 TX5 2, w ∈ TB := List.forall_mem_cons.mpr ⟨wla_RX5_groups, List.forall_mem_cons.mpr ⟨wla_RX5_strengths, fun _ h => absurd h List.not_mem_nil⟩⟩
theorem inT_X6 : ∀ w ∈ u_ws RX6 TX6 12, w ∈ TB := List.forall_mem_cons.mpr ⟨wla_RX6_city, List.forall_mem_cons.mpr ⟨wla_RX6_trial, List.forall_mem_cons.mpr ⟨wla_RX6_snapshot, List.forall_mem_cons.mpr ⟨wla_RX6_snapshotTaken, List.forall_mem_cons.mpr ⟨wla_RX6_history, List.forall_mem_cons.mpr ⟨wla_RX6_ways, List.forall_mem_cons.mpr ⟨wla_RX6_pad, List.forall_mem_cons.mpr ⟨wla_RX6_reader, List.forall_mem_cons.mpr ⟨wla_RX6_stopped, List.forall_mem_cons.mpr ⟨wla_RX6_stopCause, List.forall_mem_cons.mpr ⟨wla_RX6_stopNumber, List.forall_mem_cons.mpr ⟨wla_RX6_stopPosition, fun _ h => absurd h List.not_mem_nil⟩⟩⟩⟩⟩⟩⟩⟩⟩⟩⟩⟩
theorem inT_X7 : ∀ w ∈ u_ws RX7 TX7 15, w ∈ TB := List.forall_mem_cons.mpr ⟨wla_RX7_s, List.forall_mem_cons.mpr ⟨wla_RX7_aside, List.forall_mem_cons.mpr ⟨wla_RX7_past, List.forall_mem_cons.mpr ⟨wla_RX7_known, List.forall_mem_cons.mpr ⟨wla_RX7_kept, List.forall_mem_cons.mpr ⟨wla_RX7_isKept, List.forall_mem_cons.mpr ⟨wla_RX7_pad, List.forall_mem_cons.mpr ⟨wla_RX7_length, List.forall_mem_cons.mpr ⟨wla_RX7_spot, List.forall_mem_cons.mpr ⟨wla_RX7_isForm, List.forall_mem_cons.mpr ⟨wla_RX7_letter, List.forall_mem_cons.mpr ⟨wla_RX7_first, List.forall_mem_cons.mpr ⟨wla_RX7_second, List.forall_mem_cons.mpr ⟨wla_RX7_isStopped, List.forall_mem_cons.mpr ⟨wla_RX7_stop, fun _ h => absurd h List.not_mem_nil⟩⟩⟩⟩⟩⟩⟩⟩⟩⟩⟩⟩⟩⟩⟩
end
section
theorem dX0_init_0 : decode cX0_init 0 = .ok (.aload_n 0, 1) := by decide +kernel
theorem dX0_init_1 : decode cX0_init 1 = .ok (.invokespecial 3, 3) := by decide +kernel
theorem dX0_init_4 : decode cX0_init 4 = .ok (.aload_n 0, 1) := by decide +kernel
theorem dX0_init_5 : decode cX0_init 5 = .ok (.bipush 28, 2) := by decide +kernel
theorem dX0_init_7 : decode cX0_init 7 = .ok (.newarray .int, 2) := by decide +kernel
theorem dX0_init_9 : decode cX0_init 9 = .ok (.putfield 9, 3) := by decide +kernel
theorem dX0_init_12 : decode cX0_init 12 = .ok (.aload_n 0, 1) := by decide +kernel
theorem dX0_init_13 : decode cX0_init 13 = .ok (.bipush 28, 2) := by decide +kernel
theorem dX0_init_15 : decode cX0_init 15 = .ok (.newarray .int, 2) := by decide +kernel
theorem dX0_init_17 : decode cX0_init 17 = .ok (.putfield 15, 3) := by decide +kernel
theorem dX0_init_20 : decode cX0_init 20 = .ok (.aload_n 0, 1) := by decide +kernel
theorem dX0_init_21 : decode cX0_init 21 = .ok (.bipush 28, 2) := by decide +kernel
theorem dX0_init_23 : decode cX0_init 23 = .ok (.newarray .int, 2) := by decide +kernel
theorem dX0_init_25 : decode cX0_init 25 = .ok (.putfield 18, 3) := by decide +kernel
theorem dX0_init_28 : decode cX0_init 28 = .ok (.aload_n 0, 1) := by decide +kernel
theorem dX0_init_29 : decode cX0_init 29 = .ok (.bipush 28, 2) := by decide +kernel
theorem dX0_init_31 : decode cX0_init 31 = .ok (.newarray .int, 2) := by decide +kernel
theorem dX0_init_33 : decode cX0_init 33 = .ok (.putfield 21, 3) := by decide +kernel
theorem dX0_init_36 : decode cX0_init 36 = .ok (.aload_n 0, 1) := by decide +kernel
theorem dX0_init_37 : decode cX0_init 37 = .ok (.iconst 4, 1) := by decide +kernel
theorem dX0_init_38 : decode cX0_init 38 = .ok (.newarray .int, 2) := by decide +kernel
theorem dX0_init_40 : decode cX0_init 40 = .ok (.putfield 24, 3) := by decide +kernel
theorem dX0_init_43 : decode cX0_init 43 = .ok (.aload_n 0, 1) := by decide +kernel
theorem dX0_init_44 : decode cX0_init 44 = .ok (.iconst 4, 1) := by decide +kernel
theorem dX0_init_45 : decode cX0_init 45 = .ok (.newarray .int, 2) := by decide +kernel
theorem dX0_init_47 : decode cX0_init 47 = .ok (.putfield 27, 3) := by decide +kernel
theorem dX0_init_50 : decode cX0_init 50 = .ok (.aload_n 0, 1) := by decide +kernel
theorem dX0_init_51 : decode cX0_init 51 = .ok (.iconst 4, 1) := by decide +kernel
theorem dX0_init_52 : decode cX0_init 52 = .ok (.newarray .int, 2) := by decide +kernel
theorem dX0_init_54 : decode cX0_init 54 = .ok (.putfield 30, 3) := by decide +kernel
theorem dX0_init_57 : decode cX0_init 57 = .ok (.aload_n 0, 1) := by decide +kernel
theorem dX0_init_58 : decode cX0_init 58 = .ok (.iconst 4, 1) := by decide +kernel
theorem dX0_init_59 : decode cX0_init 59 = .ok (.newarray .int, 2) := by decide +kernel
theorem dX0_init_61 : decode cX0_init 61 = .ok (.putfield 33, 3) := by decide +kernel
theorem dX0_init_64 : decode cX0_init 64 = .ok (.aload_n 0, 1) := by decide +kernel
theorem dX0_init_65 : decode cX0_init 65 = .ok (.iconst 0, 1) := by decide +kernel
theorem dX0_init_66 : decode cX0_init 66 = .ok (.putfield 36, 3) := by decide +kernel
theorem dX0_init_69 : decode cX0_init 69 = .ok (.aload_n 0, 1) := by decide +kernel
theorem dX0_init_70 : decode cX0_init 70 = .ok (.iconst 2, 1) := by decide +kernel
theorem dX0_init_71 : decode cX0_init 71 = .ok (.putfield 40, 3) := by decide +kernel
theorem dX0_init_74 : decode cX0_init 74 = .ok (.aload_n 0, 1) := by decide +kernel
theorem dX0_init_75 : decode cX0_init 75 = .ok (.iconst 1, 1) := by decide +kernel
theorem dX0_init_76 : decode cX0_init 76 = .ok (.putfield 43, 3) := by decide +kernel
theorem dX0_init_79 : decode cX0_init 79 = .ok (.iconst 0, 1) := by decide +kernel
theorem dX0_init_80 : decode cX0_init 80 = .ok (.istore_n 1, 1) := by decide +kernel
theorem dX0_init_81 : decode cX0_init 81 = .ok (.iload_n 1, 1) := by decide +kernel
theorem dX0_init_82 : decode cX0_init 82 = .ok (.bipush 28, 2) := by decide +kernel
theorem dX0_init_84 : decode cX0_init 84 = .ok (.if_icmp .ge 27, 3) := by decide +kernel
theorem dX0_init_87 : decode cX0_init 87 = .ok (.aload_n 0, 1) := by decide +kernel
theorem dX0_init_88 : decode cX0_init 88 = .ok (.getfield 9, 3) := by decide +kernel
theorem dX0_init_91 : decode cX0_init 91 = .ok (.iload_n 1, 1) := by decide +kernel
theorem dX0_init_92 : decode cX0_init 92 = .ok (.iload_n 1, 1) := by decide +kernel
theorem dX0_init_93 : decode cX0_init 93 = .ok (.invokestatic 46, 3) := by decide +kernel
theorem dX0_init_96 : decode cX0_init 96 = .ok (.ifCond .eq 7, 3) := by decide +kernel
theorem dX0_init_99 : decode cX0_init 99 = .ok (.iconst 5, 1) := by decide +kernel
theorem dX0_init_100 : decode cX0_init 100 = .ok (.goto 4, 3) := by decide +kernel
theorem dX0_init_103 : decode cX0_init 103 = .ok (.iconst 0, 1) := by decide +kernel
theorem dX0_init_104 : decode cX0_init 104 = .ok (.iastore, 1) := by decide +kernel
theorem dX0_init_105 : decode cX0_init 105 = .ok (.iinc 1 1, 3) := by decide +kernel
theorem dX0_init_108 : decode cX0_init 108 = .ok (.goto (-27), 3) := by decide +kernel
theorem dX0_init_111 : decode cX0_init 111 = .ok (.aload_n 0, 1) := by decide +kernel
theorem dX0_init_112 : decode cX0_init 112 = .ok (.getfield 15, 3) := by decide +kernel
theorem dX0_init_115 : decode cX0_init 115 = .ok (.iconst (-1), 1) := by decide +kernel
theorem dX0_init_116 : decode cX0_init 116 = .ok (.invokestatic 52, 3) := by decide +kernel
theorem dX0_init_119 : decode cX0_init 119 = .ok (.aload_n 0, 1) := by decide +kernel
theorem dX0_init_120 : decode cX0_init 120 = .ok (.getfield 24, 3) := by decide +kernel
theorem dX0_init_123 : decode cX0_init 123 = .ok (.iconst 3, 1) := by decide +kernel
theorem dX0_init_124 : decode cX0_init 124 = .ok (.invokestatic 52, 3) := by decide +kernel
theorem dX0_init_127 : decode cX0_init 127 = .ok (.aload_n 0, 1) := by decide +kernel
theorem dX0_init_128 : decode cX0_init 128 = .ok (.getfield 27, 3) := by decide +kernel
theorem dX0_init_131 : decode cX0_init 131 = .ok (.ldc 58, 2) := by decide +kernel
theorem dX0_init_133 : decode cX0_init 133 = .ok (.invokestatic 52, 3) := by decide +kernel
theorem dX0_init_136 : decode cX0_init 136 = .ok (.iconst 0, 1) := by decide +kernel
theorem dX0_init_137 : decode cX0_init 137 = .ok (.istore_n 1, 1) := by decide +kernel
theorem dX0_init_138 : decode cX0_init 138 = .ok (.iload_n 1, 1) := by decide +kernel
theorem dX0_init_139 : decode cX0_init 139 = .ok (.iconst 4, 1) := by decide +kernel
theorem dX0_init_140 : decode cX0_init 140 = .ok (.if_icmp .ge 18, 3) := by decide +kernel
theorem dX0_init_143 : decode cX0_init 143 = .ok (.aload_n 0, 1) := by decide +kernel
theorem dX0_init_144 : decode cX0_init 144 = .ok (.getfield 30, 3) := by decide +kernel
theorem dX0_init_147 : decode cX0_init 147 = .ok (.iload_n 1, 1) := by decide +kernel
theorem dX0_init_148 : decode cX0_init 148 = .ok (.iconst 5, 1) := by decide +kernel
theorem dX0_init_149 : decode cX0_init 149 = .ok (.iload_n 1, 1) := by decide +kernel
theorem dX0_init_150 : decode cX0_init 150 = .ok (.imul, 1) := by decide +kernel
theorem dX0_init_151 : decode cX0_init 151 = .ok (.iastore, 1) := by decide +kernel
theorem dX0_init_152 : decode cX0_init 152 = .ok (.iinc 1 1, 3) := by decide +kernel
theorem dX0_init_155 : decode cX0_init 155 = .ok (.goto (-17), 3) := by decide +kernel
theorem dX0_init_158 : decode cX0_init 158 = .ok (.return_, 1) := by decide +kernel
theorem dX0_copyFrom_0 : decode cX0_copyFrom 0 = .ok (.aload_n 1, 1) := by decide +kernel
theorem dX0_copyFrom_1 : decode cX0_copyFrom 1 = .ok (.getfield 9, 3) := by decide +kernel
theorem dX0_copyFrom_4 : decode cX0_copyFrom 4 = .ok (.iconst 0, 1) := by decide +kernel
theorem dX0_copyFrom_5 : decode cX0_copyFrom 5 = .ok (.aload_n 0, 1) := by decide +kernel
theorem dX0_copyFrom_6 : decode cX0_copyFrom 6 = .ok (.getfield 9, 3) := by decide +kernel
theorem dX0_copyFrom_9 : decode cX0_copyFrom 9 = .ok (.iconst 0, 1) := by decide +kernel
theorem dX0_copyFrom_10 : decode cX0_copyFrom 10 = .ok (.bipush 28, 2) := by decide +kernel
theorem dX0_copyFrom_12 : decode cX0_copyFrom 12 = .ok (.invokestatic 59, 3) := by decide +kernel
theorem dX0_copyFrom_15 : decode cX0_copyFrom 15 = .ok (.aload_n 1, 1) := by decide +kernel
theorem dX0_copyFrom_16 : decode cX0_copyFrom 16 = .ok (.getfield 15, 3) := by decide +kernel
theorem dX0_copyFrom_19 : decode cX0_copyFrom 19 = .ok (.iconst 0, 1) := by decide +kernel
theorem dX0_copyFrom_20 : decode cX0_copyFrom 20 = .ok (.aload_n 0, 1) := by decide +kernel
theorem dX0_copyFrom_21 : decode cX0_copyFrom 21 = .ok (.getfield 15, 3) := by decide +kernel
theorem dX0_copyFrom_24 : decode cX0_copyFrom 24 = .ok (.iconst 0, 1) := by decide +kernel
theorem dX0_copyFrom_25 : decode cX0_copyFrom 25 = .ok (.bipush 28, 2) := by decide +kernel
theorem dX0_copyFrom_27 : decode cX0_copyFrom 27 = .ok (.invokestatic 59, 3) := by decide +kernel
theorem dX0_copyFrom_30 : decode cX0_copyFrom 30 = .ok (.aload_n 1, 1) := by decide +kernel
theorem dX0_copyFrom_31 : decode cX0_copyFrom 31 = .ok (.getfield 18, 3) := by decide +kernel
theorem dX0_copyFrom_34 : decode cX0_copyFrom 34 = .ok (.iconst 0, 1) := by decide +kernel
theorem dX0_copyFrom_35 : decode cX0_copyFrom 35 = .ok (.aload_n 0, 1) := by decide +kernel
theorem dX0_copyFrom_36 : decode cX0_copyFrom 36 = .ok (.getfield 18, 3) := by decide +kernel
theorem dX0_copyFrom_39 : decode cX0_copyFrom 39 = .ok (.iconst 0, 1) := by decide +kernel
theorem dX0_copyFrom_40 : decode cX0_copyFrom 40 = .ok (.bipush 28, 2) := by decide +kernel
theorem dX0_copyFrom_42 : decode cX0_copyFrom 42 = .ok (.invokestatic 59, 3) := by decide +kernel
theorem dX0_copyFrom_45 : decode cX0_copyFrom 45 = .ok (.aload_n 1, 1) := by decide +kernel
theorem dX0_copyFrom_46 : decode cX0_copyFrom 46 = .ok (.getfield 21, 3) := by decide +kernel
theorem dX0_copyFrom_49 : decode cX0_copyFrom 49 = .ok (.iconst 0, 1) := by decide +kernel
theorem dX0_copyFrom_50 : decode cX0_copyFrom 50 = .ok (.aload_n 0, 1) := by decide +kernel
theorem dX0_copyFrom_51 : decode cX0_copyFrom 51 = .ok (.getfield 21, 3) := by decide +kernel
theorem dX0_copyFrom_54 : decode cX0_copyFrom 54 = .ok (.iconst 0, 1) := by decide +kernel
theorem dX0_copyFrom_55 : decode cX0_copyFrom 55 = .ok (.bipush 28, 2) := by decide +kernel
theorem dX0_copyFrom_57 : decode cX0_copyFrom 57 = .ok (.invokestatic 59, 3) := by decide +kernel
theorem dX0_copyFrom_60 : decode cX0_copyFrom 60 = .ok (.aload_n 1, 1) := by decide +kernel
theorem dX0_copyFrom_61 : decode cX0_copyFrom 61 = .ok (.getfield 24, 3) := by decide +kernel
theorem dX0_copyFrom_64 : decode cX0_copyFrom 64 = .ok (.iconst 0, 1) := by decide +kernel
theorem dX0_copyFrom_65 : decode cX0_copyFrom 65 = .ok (.aload_n 0, 1) := by decide +kernel
theorem dX0_copyFrom_66 : decode cX0_copyFrom 66 = .ok (.getfield 24, 3) := by decide +kernel
theorem dX0_copyFrom_69 : decode cX0_copyFrom 69 = .ok (.iconst 0, 1) := by decide +kernel
theorem dX0_copyFrom_70 : decode cX0_copyFrom 70 = .ok (.iconst 4, 1) := by decide +kernel
theorem dX0_copyFrom_71 : decode cX0_copyFrom 71 = .ok (.invokestatic 59, 3) := by decide +kernel
theorem dX0_copyFrom_74 : decode cX0_copyFrom 74 = .ok (.aload_n 1, 1) := by decide +kernel
theorem dX0_copyFrom_75 : decode cX0_copyFrom 75 = .ok (.getfield 27, 3) := by decide +kernel
theorem dX0_copyFrom_78 : decode cX0_copyFrom 78 = .ok (.iconst 0, 1) := by decide +kernel
theorem dX0_copyFrom_79 : decode cX0_copyFrom 79 = .ok (.aload_n 0, 1) := by decide +kernel
theorem dX0_copyFrom_80 : decode cX0_copyFrom 80 = .ok (.getfield 27, 3) := by decide +kernel
theorem dX0_copyFrom_83 : decode cX0_copyFrom 83 = .ok (.iconst 0, 1) := by decide +kernel
theorem dX0_copyFrom_84 : decode cX0_copyFrom 84 = .ok (.iconst 4, 1) := by decide +kernel
theorem dX0_copyFrom_85 : decode cX0_copyFrom 85 = .ok (.invokestatic 59, 3) := by decide +kernel
theorem dX0_copyFrom_88 : decode cX0_copyFrom 88 = .ok (.aload_n 1, 1) := by decide +kernel
theorem dX0_copyFrom_89 : decode cX0_copyFrom 89 = .ok (.getfield 30, 3) := by decide +kernel
theorem dX0_copyFrom_92 : decode cX0_copyFrom 92 = .ok (.iconst 0, 1) := by decide +kernel
theorem dX0_copyFrom_93 : decode cX0_copyFrom 93 = .ok (.aload_n 0, 1) := by decide +kernel
theorem dX0_copyFrom_94 : decode cX0_copyFrom 94 = .ok (.getfield 30, 3) := by decide +kernel
theorem dX0_copyFrom_97 : decode cX0_copyFrom 97 = .ok (.iconst 0, 1) := by decide +kernel
theorem dX0_copyFrom_98 : decode cX0_copyFrom 98 = .ok (.iconst 4, 1) := by decide +kernel
theorem dX0_copyFrom_99 : decode cX0_copyFrom 99 = .ok (.invokestatic 59, 3) := by decide +kernel
theorem dX0_copyFrom_102 : decode cX0_copyFrom 102 = .ok (.aload_n 1, 1) := by decide +kernel
theorem dX0_copyFrom_103 : decode cX0_copyFrom 103 = .ok (.getfield 33, 3) := by decide +kernel
theorem dX0_copyFrom_106 : decode cX0_copyFrom 106 = .ok (.iconst 0, 1) := by decide +kernel
theorem dX0_copyFrom_107 : decode cX0_copyFrom 107 = .ok (.aload_n 0, 1) := by decide +kernel
theorem dX0_copyFrom_108 : decode cX0_copyFrom 108 = .ok (.getfield 33, 3) := by decide +kernel
theorem dX0_copyFrom_111 : decode cX0_copyFrom 111 = .ok (.iconst 0, 1) := by decide +kernel
theorem dX0_copyFrom_112 : decode cX0_copyFrom 112 = .ok (.iconst 4, 1) := by decide +kernel
theorem dX0_copyFrom_113 : decode cX0_copyFrom 113 = .ok (.invokestatic 59, 3) := by decide +kernel
theorem dX0_copyFrom_116 : decode cX0_copyFrom 116 = .ok (.aload_n 0, 1) := by decide +kernel
theorem dX0_copyFrom_117 : decode cX0_copyFrom 117 = .ok (.aload_n 1, 1) := by decide +kernel
theorem dX0_copyFrom_118 : decode cX0_copyFrom 118 = .ok (.getfield 65, 3) := by decide +kernel
theorem dX0_copyFrom_121 : decode cX0_copyFrom 121 = .ok (.putfield 65, 3) := by decide +kernel
theorem dX0_copyFrom_124 : decode cX0_copyFrom 124 = .ok (.aload_n 0, 1) := by decide +kernel
theorem dX0_copyFrom_125 : decode cX0_copyFrom 125 = .ok (.aload_n 1, 1) := by decide +kernel
theorem dX0_copyFrom_126 : decode cX0_copyFrom 126 = .ok (.getfield 68, 3) := by decide +kernel
theorem dX0_copyFrom_129 : decode cX0_copyFrom 129 = .ok (.putfield 68, 3) := by decide +kernel
theorem dX0_copyFrom_132 : decode cX0_copyFrom 132 = .ok (.aload_n 0, 1) := by decide +kernel
theorem dX0_copyFrom_133 : decode cX0_copyFrom 133 = .ok (.aload_n 1, 1) := by decide +kernel
theorem dX0_copyFrom_134 : decode cX0_copyFrom 134 = .ok (.getfield 71, 3) := by decide +kernel
theorem dX0_copyFrom_137 : decode cX0_copyFrom 137 = .ok (.putfield 71, 3) := by decide +kernel
theorem dX0_copyFrom_140 : decode cX0_copyFrom 140 = .ok (.aload_n 0, 1) := by decide +kernel
theorem dX0_copyFrom_141 : decode cX0_copyFrom 141 = .ok (.aload_n 1, 1) := by decide +kernel
theorem dX0_copyFrom_142 : decode cX0_copyFrom 142 = .ok (.getfield 36, 3) := by decide +kernel
theorem dX0_copyFrom_145 : decode cX0_copyFrom 145 = .ok (.putfield 36, 3) := by decide +kernel
theorem dX0_copyFrom_148 : decode cX0_copyFrom 148 = .ok (.aload_n 0, 1) := by decide +kernel
theorem dX0_copyFrom_149 : decode cX0_copyFrom 149 = .ok (.aload_n 1, 1) := by decide +kernel
theorem dX0_copyFrom_150 : decode cX0_copyFrom 150 = .ok (.getfield 40, 3) := by decide +kernel
theorem dX0_copyFrom_153 : decode cX0_copyFrom 153 = .ok (.putfield 40, 3) := by decide +kernel
theorem dX0_copyFrom_156 : decode cX0_copyFrom 156 = .ok (.aload_n 0, 1) := by decide +kernel
theorem dX0_copyFrom_157 : decode cX0_copyFrom 157 = .ok (.aload_n 1, 1) := by decide +kernel
theorem dX0_copyFrom_158 : decode cX0_copyFrom 158 = .ok (.getfield 74, 3) := by decide +kernel
theorem dX0_copyFrom_161 : decode cX0_copyFrom 161 = .ok (.putfield 74, 3) := by decide +kernel
theorem dX0_copyFrom_164 : decode cX0_copyFrom 164 = .ok (.aload_n 0, 1) := by decide +kernel
theorem dX0_copyFrom_165 : decode cX0_copyFrom 165 = .ok (.aload_n 1, 1) := by decide +kernel
theorem dX0_copyFrom_166 : decode cX0_copyFrom 166 = .ok (.getfield 43, 3) := by decide +kernel
theorem dX0_copyFrom_169 : decode cX0_copyFrom 169 = .ok (.putfield 43, 3) := by decide +kernel
theorem dX0_copyFrom_172 : decode cX0_copyFrom 172 = .ok (.aload_n 0, 1) := by decide +kernel
theorem dX0_copyFrom_173 : decode cX0_copyFrom 173 = .ok (.aload_n 1, 1) := by decide +kernel
theorem dX0_copyFrom_174 : decode cX0_copyFrom 174 = .ok (.getfield 77, 3) := by decide +kernel
theorem dX0_copyFrom_177 : decode cX0_copyFrom 177 = .ok (.putfield 77, 3) := by decide +kernel
theorem dX0_copyFrom_180 : decode cX0_copyFrom 180 = .ok (.aload_n 0, 1) := by decide +kernel
theorem dX0_copyFrom_181 : decode cX0_copyFrom 181 = .ok (.aload_n 1, 1) := by decide +kernel
theorem dX0_copyFrom_182 : decode cX0_copyFrom 182 = .ok (.getfield 80, 3) := by decide +kernel
theorem dX0_copyFrom_185 : decode cX0_copyFrom 185 = .ok (.putfield 80, 3) := by decide +kernel
theorem dX0_copyFrom_188 : decode cX0_copyFrom 188 = .ok (.aload_n 0, 1) := by decide +kernel
theorem dX0_copyFrom_189 : decode cX0_copyFrom 189 = .ok (.aload_n 1, 1) := by decide +kernel
theorem dX0_copyFrom_190 : decode cX0_copyFrom 190 = .ok (.getfield 83, 3) := by decide +kernel
theorem dX0_copyFrom_193 : decode cX0_copyFrom 193 = .ok (.putfield 83, 3) := by decide +kernel
theorem dX0_copyFrom_196 : decode cX0_copyFrom 196 = .ok (.aload_n 0, 1) := by decide +kernel
theorem dX0_copyFrom_197 : decode cX0_copyFrom 197 = .ok (.aload_n 1, 1) := by decide +kernel
theorem dX0_copyFrom_198 : decode cX0_copyFrom 198 = .ok (.getfield 86, 3) := by decide +kernel
theorem dX0_copyFrom_201 : decode cX0_copyFrom 201 = .ok (.putfield 86, 3) := by decide +kernel
theorem dX0_copyFrom_204 : decode cX0_copyFrom 204 = .ok (.return_, 1) := by decide +kernel
theorem dX0_letBear_0 : decode cX0_letBear 0 = .ok (.aload_n 0, 1) := by decide +kernel
theorem dX0_letBear_1 : decode cX0_letBear 1 = .ok (.getfield 9, 3) := by decide +kernel
theorem dX0_letBear_4 : decode cX0_letBear 4 = .ok (.iload_n 1, 1) := by decide +kernel
theorem dX0_letBear_5 : decode cX0_letBear 5 = .ok (.iload_n 2, 1) := by decide +kernel
theorem dX0_letBear_6 : decode cX0_letBear 6 = .ok (.iastore, 1) := by decide +kernel
theorem dX0_letBear_7 : decode cX0_letBear 7 = .ok (.iload_n 2, 1) := by decide +kernel
theorem dX0_letBear_8 : decode cX0_letBear 8 = .ok (.ifCond .ne 28, 3) := by decide +kernel
theorem dX0_letBear_11 : decode cX0_letBear 11 = .ok (.aload_n 0, 1) := by decide +kernel
theorem dX0_letBear_12 : decode cX0_letBear 12 = .ok (.iload_n 1, 1) := by decide +kernel
theorem dX0_letBear_13 : decode cX0_letBear 13 = .ok (.invokevirtual 89, 3) := by decide +kernel
theorem dX0_letBear_16 : decode cX0_letBear 16 = .ok (.ifCond .eq 20, 3) := by decide +kernel
theorem dX0_letBear_19 : decode cX0_letBear 19 = .ok (.aload_n 0, 1) := by decide +kernel
theorem dX0_letBear_20 : decode cX0_letBear 20 = .ok (.getfield 15, 3) := by decide +kernel
theorem dX0_letBear_23 : decode cX0_letBear 23 = .ok (.iload_n 1, 1) := by decide +kernel
theorem dX0_letBear_24 : decode cX0_letBear 24 = .ok (.iconst (-1), 1) := by decide +kernel
theorem dX0_letBear_25 : decode cX0_letBear 25 = .ok (.iastore, 1) := by decide +kernel
theorem dX0_letBear_26 : decode cX0_letBear 26 = .ok (.aload_n 0, 1) := by decide +kernel
theorem dX0_letBear_27 : decode cX0_letBear 27 = .ok (.dup, 1) := by decide +kernel
theorem dX0_letBear_28 : decode cX0_letBear 28 = .ok (.getfield 83, 3) := by decide +kernel
theorem dX0_letBear_31 : decode cX0_letBear 31 = .ok (.iconst 1, 1) := by decide +kernel
theorem dX0_letBear_32 : decode cX0_letBear 32 = .ok (.iadd, 1) := by decide +kernel
theorem dX0_letBear_33 : decode cX0_letBear 33 = .ok (.putfield 83, 3) := by decide +kernel
theorem dX0_letBear_36 : decode cX0_letBear 36 = .ok (.return_, 1) := by decide +kernel
theorem dX0_toggleChimney_0 : decode cX0_toggleChimney 0 = .ok (.aload_n 0, 1) := by decide +kernel
theorem dX0_toggleChimney_1 : decode cX0_toggleChimney 1 = .ok (.dup, 1) := by decide +kernel
theorem dX0_toggleChimney_2 : decode cX0_toggleChimney 2 = .ok (.getfield 68, 3) := by decide +kernel
theorem dX0_toggleChimney_5 : decode cX0_toggleChimney 5 = .ok (.iconst 1, 1) := by decide +kernel
theorem dX0_toggleChimney_6 : decode cX0_toggleChimney 6 = .ok (.iload_n 1, 1) := by decide +kernel
theorem dX0_toggleChimney_7 : decode cX0_toggleChimney 7 = .ok (.ishl, 1) := by decide +kernel
theorem dX0_toggleChimney_8 : decode cX0_toggleChimney 8 = .ok (.ixor, 1) := by decide +kernel
theorem dX0_toggleChimney_9 : decode cX0_toggleChimney 9 = .ok (.putfield 68, 3) := by decide +kernel
theorem dX0_toggleChimney_12 : decode cX0_toggleChimney 12 = .ok (.return_, 1) := by decide +kernel
theorem dX0_setTruce_0 : decode cX0_setTruce 0 = .ok (.aload_n 0, 1) := by decide +kernel
theorem dX0_setTruce_1 : decode cX0_setTruce 1 = .ok (.iload_n 2, 1) := by decide +kernel
theorem dX0_setTruce_2 : decode cX0_setTruce 2 = .ok (.ifCond .eq 14, 3) := by decide +kernel
theorem dX0_setTruce_5 : decode cX0_setTruce 5 = .ok (.aload_n 0, 1) := by decide +kernel
theorem dX0_setTruce_6 : decode cX0_setTruce 6 = .ok (.getfield 65, 3) := by decide +kernel
theorem dX0_setTruce_9 : decode cX0_setTruce 9 = .ok (.iconst 1, 1) := by decide +kernel
theorem dX0_setTruce_10 : decode cX0_setTruce 10 = .ok (.iload_n 1, 1) := by decide +kernel
theorem dX0_setTruce_11 : decode cX0_setTruce 11 = .ok (.ishl, 1) := by decide +kernel
theorem dX0_setTruce_12 : decode cX0_setTruce 12 = .ok (.ior, 1) := by decide +kernel
theorem dX0_setTruce_13 : decode cX0_setTruce 13 = .ok (.goto 13, 3) := by decide +kernel
theorem dX0_setTruce_16 : decode cX0_setTruce 16 = .ok (.aload_n 0, 1) := by decide +kernel
theorem dX0_setTruce_17 : decode cX0_setTruce 17 = .ok (.getfield 65, 3) := by decide +kernel
theorem dX0_setTruce_20 : decode cX0_setTruce 20 = .ok (.iconst 1, 1) := by decide +kernel
theorem dX0_setTruce_21 : decode cX0_setTruce 21 = .ok (.iload_n 1, 1) := by decide +kernel
theorem dX0_setTruce_22 : decode cX0_setTruce 22 = .ok (.ishl, 1) := by decide +kernel
theorem dX0_setTruce_23 : decode cX0_setTruce 23 = .ok (.iconst (-1), 1) := by decide +kernel
theorem dX0_setTruce_24 : decode cX0_setTruce 24 = .ok (.ixor, 1) := by decide +kernel
theorem dX0_setTruce_25 : decode cX0_setTruce 25 = .ok (.iand, 1) := by decide +kernel
theorem dX0_setTruce_26 : decode cX0_setTruce 26 = .ok (.putfield 65, 3) := by decide +kernel
theorem dX0_setTruce_29 : decode cX0_setTruce 29 = .ok (.return_, 1) := by decide +kernel
theorem dX0_hasLine_0 : decode cX0_hasLine 0 = .ok (.aload_n 0, 1) := by decide +kernel
theorem dX0_hasLine_1 : decode cX0_hasLine 1 = .ok (.getfield 15, 3) := by decide +kernel
theorem dX0_hasLine_4 : decode cX0_hasLine 4 = .ok (.iload_n 1, 1) := by decide +kernel
theorem dX0_hasLine_5 : decode cX0_hasLine 5 = .ok (.iaload, 1) := by decide +kernel
theorem dX0_hasLine_6 : decode cX0_hasLine 6 = .ok (.iconst (-1), 1) := by decide +kernel
theorem dX0_hasLine_7 : decode cX0_hasLine 7 = .ok (.if_icmp .eq 7, 3) := by decide +kernel
theorem dX0_hasLine_10 : decode cX0_hasLine 10 = .ok (.iconst 1, 1) := by decide +kernel
theorem dX0_hasLine_11 : decode cX0_hasLine 11 = .ok (.goto 4, 3) := by decide +kernel
theorem dX0_hasLine_14 : decode cX0_hasLine 14 = .ok (.iconst 0, 1) := by decide +kernel
theorem dX0_hasLine_15 : decode cX0_hasLine 15 = .ok (.ireturn, 1) := by decide +kernel
theorem dX0_isThere_0 : decode cX0_isThere 0 = .ok (.aload_n 0, 1) := by decide +kernel
theorem dX0_isThere_1 : decode cX0_isThere 1 = .ok (.getfield 9, 3) := by decide +kernel
theorem dX0_isThere_4 : decode cX0_isThere 4 = .ok (.iload_n 1, 1) := by decide +kernel
theorem dX0_isThere_5 : decode cX0_isThere 5 = .ok (.iaload, 1) := by decide +kernel
theorem dX0_isThere_6 : decode cX0_isThere 6 = .ok (.ifCond .le 7, 3) := by decide +kernel
theorem dX0_isThere_9 : decode cX0_isThere 9 = .ok (.iconst 1, 1) := by decide +kernel
theorem dX0_isThere_10 : decode cX0_isThere 10 = .ok (.goto 4, 3) := by decide +kernel
theorem dX0_isThere_13 : decode cX0_isThere 13 = .ok (.iconst 0, 1) := by decide +kernel
theorem dX0_isThere_14 : decode cX0_isThere 14 = .ok (.ireturn, 1) := by decide +kernel
theorem dX0_smokeBlown_0 : decode cX0_smokeBlown 0 = .ok (.iconst 0, 1) := by decide +kernel
theorem dX0_smokeBlown_1 : decode cX0_smokeBlown 1 = .ok (.istore_n 2, 1) := by decide +kernel
theorem dX0_smokeBlown_2 : decode cX0_smokeBlown 2 = .ok (.iconst 0, 1) := by decide +kernel
theorem dX0_smokeBlown_3 : decode cX0_smokeBlown 3 = .ok (.istore_n 3, 1) := by decide +kernel
theorem dX0_smokeBlown_4 : decode cX0_smokeBlown 4 = .ok (.iload_n 3, 1) := by decide +kernel
theorem dX0_smokeBlown_5 : decode cX0_smokeBlown 5 = .ok (.bipush 16, 2) := by decide +kernel
theorem dX0_smokeBlown_7 : decode cX0_smokeBlown 7 = .ok (.if_icmp .ge 32, 3) := by decide +kernel
theorem dX0_smokeBlown_10 : decode cX0_smokeBlown 10 = .ok (.aload_n 0, 1) := by decide +kernel
theorem dX0_smokeBlown_11 : decode cX0_smokeBlown 11 = .ok (.getfield 68, 3) := by decide +kernel
theorem dX0_smokeBlown_14 : decode cX0_smokeBlown 14 = .ok (.iload_n 3, 1) := by decide +kernel
theorem dX0_smokeBlown_15 : decode cX0_smokeBlown 15 = .ok (.invokestatic 92, 3) := by decide +kernel
theorem dX0_smokeBlown_18 : decode cX0_smokeBlown 18 = .ok (.ifCond .eq 15, 3) := by decide +kernel
theorem dX0_smokeBlown_21 : decode cX0_smokeBlown 21 = .ok (.iload_n 2, 1) := by decide +kernel
theorem dX0_smokeBlown_22 : decode cX0_smokeBlown 22 = .ok (.iload_n 3, 1) := by decide +kernel
theorem dX0_smokeBlown_23 : decode cX0_smokeBlown 23 = .ok (.iload_n 1, 1) := by decide +kernel
theorem dX0_smokeBlown_24 : decode cX0_smokeBlown 24 = .ok (.aload_n 0, 1) := by decide +kernel
theorem dX0_smokeBlown_25 : decode cX0_smokeBlown 25 = .ok (.getfield 40, 3) := by decide +kernel
theorem dX0_smokeBlown_28 : decode cX0_smokeBlown 28 = .ok (.invokestatic 96, 3) := by decide +kernel
theorem dX0_smokeBlown_31 : decode cX0_smokeBlown 31 = .ok (.ior, 1) := by decide +kernel
theorem dX0_smokeBlown_32 : decode cX0_smokeBlown 32 = .ok (.istore_n 2, 1) := by decide +kernel
theorem dX0_smokeBlown_33 : decode cX0_smokeBlown 33 = .ok (.iinc 3 1, 3) := by decide +kernel
theorem dX0_smokeBlown_36 : decode cX0_smokeBlown 36 = .ok (.goto (-32), 3) := by decide +kernel
theorem dX0_smokeBlown_39 : decode cX0_smokeBlown 39 = .ok (.iload_n 2, 1) := by decide +kernel
theorem dX0_smokeBlown_40 : decode cX0_smokeBlown 40 = .ok (.ireturn, 1) := by decide +kernel
theorem dX0_chimneysSmoking_0 : decode cX0_chimneysSmoking 0 = .ok (.iconst 0, 1) := by decide +kernel
theorem dX0_chimneysSmoking_1 : decode cX0_chimneysSmoking 1 = .ok (.istore_n 2, 1) := by decide +kernel
theorem dX0_chimneysSmoking_2 : decode cX0_chimneysSmoking 2 = .ok (.iconst 0, 1) := by decide +kernel
theorem dX0_chimneysSmoking_3 : decode cX0_chimneysSmoking 3 = .ok (.istore_n 3, 1) := by decide +kernel
theorem dX0_chimneysSmoking_4 : decode cX0_chimneysSmoking 4 = .ok (.iload_n 3, 1) := by decide +kernel
theorem dX0_chimneysSmoking_5 : decode cX0_chimneysSmoking 5 = .ok (.bipush 16, 2) := by decide +kernel
theorem dX0_chimneysSmoking_7 : decode cX0_chimneysSmoking 7 = .ok (.if_icmp .ge 42, 3) := by decide +kernel
theorem dX0_chimneysSmoking_10 : decode cX0_chimneysSmoking 10 = .ok (.aload_n 0, 1) := by decide +kernel
theorem dX0_chimneysSmoking_11 : decode cX0_chimneysSmoking 11 = .ok (.getfield 68, 3) := by decide +kernel
theorem dX0_chimneysSmoking_14 : decode cX0_chimneysSmoking 14 = .ok (.iload_n 3, 1) := by decide +kernel
theorem dX0_chimneysSmoking_15 : decode cX0_chimneysSmoking 15 = .ok (.invokestatic 92, 3) := by decide +kernel
theorem dX0_chimneysSmoking_18 : decode cX0_chimneysSmoking 18 = .ok (.ifCond .eq 25, 3) := by decide +kernel
theorem dX0_chimneysSmoking_21 : decode cX0_chimneysSmoking 21 = .ok (.iload_n 3, 1) := by decide +kernel
theorem dX0_chimneysSmoking_22 : decode cX0_chimneysSmoking 22 = .ok (.aload_n 0, 1) := by decide +kernel
theorem dX0_chimneysSmoking_23 : decode cX0_chimneysSmoking 23 = .ok (.getfield 36, 3) := by decide +kernel
theorem dX0_chimneysSmoking_26 : decode cX0_chimneysSmoking 26 = .ok (.aload_n 0, 1) := by decide +kernel
theorem dX0_chimneysSmoking_27 : decode cX0_chimneysSmoking 27 = .ok (.getfield 40, 3) := by decide +kernel
theorem dX0_chimneysSmoking_30 : decode cX0_chimneysSmoking 30 = .ok (.invokestatic 96, 3) := by decide +kernel
theorem dX0_chimneysSmoking_33 : decode cX0_chimneysSmoking 33 = .ok (.iload_n 1, 1) := by decide +kernel
theorem dX0_chimneysSmoking_34 : decode cX0_chimneysSmoking 34 = .ok (.invokestatic 92, 3) := by decide +kernel
theorem dX0_chimneysSmoking_37 : decode cX0_chimneysSmoking 37 = .ok (.ifCond .eq 6, 3) := by decide +kernel
theorem dX0_chimneysSmoking_40 : decode cX0_chimneysSmoking 40 = .ok (.iinc 2 1, 3) := by decide +kernel
theorem dX0_chimneysSmoking_43 : decode cX0_chimneysSmoking 43 = .ok (.iinc 3 1, 3) := by decide +kernel
theorem dX0_chimneysSmoking_46 : decode cX0_chimneysSmoking 46 = .ok (.goto (-42), 3) := by decide +kernel
theorem dX0_chimneysSmoking_49 : decode cX0_chimneysSmoking 49 = .ok (.iload_n 2, 1) := by decide +kernel
theorem dX0_chimneysSmoking_50 : decode cX0_chimneysSmoking 50 = .ok (.ireturn, 1) := by decide +kernel
theorem dX0_windsSmoking_0 : decode cX0_windsSmoking 0 = .ok (.iconst 0, 1) := by decide +kernel
theorem dX0_windsSmoking_1 : decode cX0_windsSmoking 1 = .ok (.istore_n 2, 1) := by decide +kernel
theorem dX0_windsSmoking_2 : decode cX0_windsSmoking 2 = .ok (.iconst 0, 1) := by decide +kernel
theorem dX0_windsSmoking_3 : decode cX0_windsSmoking 3 = .ok (.istore_n 3, 1) := by decide +kernel
theorem dX0_windsSmoking_4 : decode cX0_windsSmoking 4 = .ok (.iload_n 3, 1) := by decide +kernel
theorem dX0_windsSmoking_5 : decode cX0_windsSmoking 5 = .ok (.iconst 4, 1) := by decide +kernel
theorem dX0_windsSmoking_6 : decode cX0_windsSmoking 6 = .ok (.if_icmp .ge 25, 3) := by decide +kernel
theorem dX0_windsSmoking_9 : decode cX0_windsSmoking 9 = .ok (.aload_n 0, 1) := by decide +kernel
theorem dX0_windsSmoking_10 : decode cX0_windsSmoking 10 = .ok (.iload_n 3, 1) := by decide +kernel
theorem dX0_windsSmoking_11 : decode cX0_windsSmoking 11 = .ok (.invokevirtual 100, 3) := by decide +kernel
theorem dX0_windsSmoking_14 : decode cX0_windsSmoking 14 = .ok (.iload_n 1, 1) := by decide +kernel
theorem dX0_windsSmoking_15 : decode cX0_windsSmoking 15 = .ok (.invokestatic 104, 3) := by decide +kernel
theorem dX0_windsSmoking_18 : decode cX0_windsSmoking 18 = .ok (.iand, 1) := by decide +kernel
theorem dX0_windsSmoking_19 : decode cX0_windsSmoking 19 = .ok (.ifCond .eq 6, 3) := by decide +kernel
theorem dX0_windsSmoking_22 : decode cX0_windsSmoking 22 = .ok (.iinc 2 1, 3) := by decide +kernel
theorem dX0_windsSmoking_25 : decode cX0_windsSmoking 25 = .ok (.iinc 3 1, 3) := by decide +kernel
theorem dX0_windsSmoking_28 : decode cX0_windsSmoking 28 = .ok (.goto (-24), 3) := by decide +kernel
theorem dX0_windsSmoking_31 : decode cX0_windsSmoking 31 = .ok (.iload_n 2, 1) := by decide +kernel
theorem dX0_windsSmoking_32 : decode cX0_windsSmoking 32 = .ok (.ireturn, 1) := by decide +kernel
theorem dX0_isNearCoop_0 : decode cX0_isNearCoop 0 = .ok (.iload_n 1, 1) := by decide +kernel
theorem dX0_isNearCoop_1 : decode cX0_isNearCoop 1 = .ok (.invokestatic 107, 3) := by decide +kernel
theorem dX0_isNearCoop_4 : decode cX0_isNearCoop 4 = .ok (.invokestatic 110, 3) := by decide +kernel
theorem dX0_isNearCoop_7 : decode cX0_isNearCoop 7 = .ok (.iload_n 1, 1) := by decide +kernel
theorem dX0_isNearCoop_8 : decode cX0_isNearCoop 8 = .ok (.invokestatic 113, 3) := by decide +kernel
theorem dX0_isNearCoop_11 : decode cX0_isNearCoop 11 = .ok (.invokestatic 110, 3) := by decide +kernel
theorem dX0_isNearCoop_14 : decode cX0_isNearCoop 14 = .ok (.ior, 1) := by decide +kernel
theorem dX0_isNearCoop_15 : decode cX0_isNearCoop 15 = .ok (.istore_n 2, 1) := by decide +kernel
theorem dX0_isNearCoop_16 : decode cX0_isNearCoop 16 = .ok (.aload_n 0, 1) := by decide +kernel
theorem dX0_isNearCoop_17 : decode cX0_isNearCoop 17 = .ok (.getfield 71, 3) := by decide +kernel
theorem dX0_isNearCoop_20 : decode cX0_isNearCoop 20 = .ok (.iload_n 2, 1) := by decide +kernel
theorem dX0_isNearCoop_21 : decode cX0_isNearCoop 21 = .ok (.iand, 1) := by decide +kernel
theorem dX0_isNearCoop_22 : decode cX0_isNearCoop 22 = .ok (.ifCond .eq 7, 3) := by decide +kernel
theorem dX0_isNearCoop_25 : decode cX0_isNearCoop 25 = .ok (.iconst 1, 1) := by decide +kernel
theorem dX0_isNearCoop_26 : decode cX0_isNearCoop 26 = .ok (.goto 4, 3) := by decide +kernel
theorem dX0_isNearCoop_29 : decode cX0_isNearCoop 29 = .ok (.iconst 0, 1) := by decide +kernel
theorem dX0_isNearCoop_30 : decode cX0_isNearCoop 30 = .ok (.ireturn, 1) := by decide +kernel
theorem dX0_reasonNotToHang_0 : decode cX0_reasonNotToHang 0 = .ok (.iload_n 2, 1) := by decide +kernel
theorem dX0_reasonNotToHang_1 : decode cX0_reasonNotToHang 1 = .ok (.invokestatic 104, 3) := by decide +kernel
theorem dX0_reasonNotToHang_4 : decode cX0_reasonNotToHang 4 = .ok (.istore_n 3, 1) := by decide +kernel
theorem dX0_reasonNotToHang_5 : decode cX0_reasonNotToHang 5 = .ok (.aload_n 0, 1) := by decide +kernel
theorem dX0_reasonNotToHang_6 : decode cX0_reasonNotToHang 6 = .ok (.iload_n 2, 1) := by decide +kernel
theorem dX0_reasonNotToHang_7 : decode cX0_reasonNotToHang 7 = .ok (.invokevirtual 116, 3) := by decide +kernel
theorem dX0_reasonNotToHang_10 : decode cX0_reasonNotToHang 10 = .ok (.ifCond .ne 5, 3) := by decide +kernel
theorem dX0_reasonNotToHang_13 : decode cX0_reasonNotToHang 13 = .ok (.iconst 1, 1) := by decide +kernel
theorem dX0_reasonNotToHang_14 : decode cX0_reasonNotToHang 14 = .ok (.ireturn, 1) := by decide +kernel
theorem dX0_reasonNotToHang_15 : decode cX0_reasonNotToHang 15 = .ok (.aload_n 0, 1) := by decide +kernel
theorem dX0_reasonNotToHang_16 : decode cX0_reasonNotToHang 16 = .ok (.iload_n 2, 1) := by decide +kernel
theorem dX0_reasonNotToHang_17 : decode cX0_reasonNotToHang 17 = .ok (.invokevirtual 89, 3) := by decide +kernel
theorem dX0_reasonNotToHang_20 : decode cX0_reasonNotToHang 20 = .ok (.ifCond .eq 5, 3) := by decide +kernel
theorem dX0_reasonNotToHang_23 : decode cX0_reasonNotToHang 23 = .ok (.iconst 2, 1) := by decide +kernel
theorem dX0_reasonNotToHang_24 : decode cX0_reasonNotToHang 24 = .ok (.ireturn, 1) := by decide +kernel
theorem dX0_reasonNotToHang_25 : decode cX0_reasonNotToHang 25 = .ok (.aload_n 0, 1) := by decide +kernel
theorem dX0_reasonNotToHang_26 : decode cX0_reasonNotToHang 26 = .ok (.getfield 27, 3) := by decide +kernel
theorem dX0_reasonNotToHang_29 : decode cX0_reasonNotToHang 29 = .ok (.iload_n 1, 1) := by decide +kernel
theorem dX0_reasonNotToHang_30 : decode cX0_reasonNotToHang 30 = .ok (.iaload, 1) := by decide +kernel
theorem dX0_reasonNotToHang_31 : decode cX0_reasonNotToHang 31 = .ok (.iload_n 3, 1) := by decide +kernel
theorem dX0_reasonNotToHang_32 : decode cX0_reasonNotToHang 32 = .ok (.iand, 1) := by decide +kernel
theorem dX0_reasonNotToHang_33 : decode cX0_reasonNotToHang 33 = .ok (.iload_n 3, 1) := by decide +kernel
theorem dX0_reasonNotToHang_34 : decode cX0_reasonNotToHang 34 = .ok (.if_icmp .eq 5, 3) := by decide +kernel
theorem dX0_reasonNotToHang_37 : decode cX0_reasonNotToHang 37 = .ok (.iconst 3, 1) := by decide +kernel
theorem dX0_reasonNotToHang_38 : decode cX0_reasonNotToHang 38 = .ok (.ireturn, 1) := by decide +kernel
theorem dX0_reasonNotToHang_39 : decode cX0_reasonNotToHang 39 = .ok (.aload_n 0, 1) := by decide +kernel
theorem dX0_reasonNotToHang_40 : decode cX0_reasonNotToHang 40 = .ok (.aload_n 0, 1) := by decide +kernel
theorem dX0_reasonNotToHang_41 : decode cX0_reasonNotToHang 41 = .ok (.getfield 36, 3) := by decide +kernel
theorem dX0_reasonNotToHang_44 : decode cX0_reasonNotToHang 44 = .ok (.invokevirtual 100, 3) := by decide +kernel
theorem dX0_reasonNotToHang_47 : decode cX0_reasonNotToHang 47 = .ok (.iload_n 3, 1) := by decide +kernel
theorem dX0_reasonNotToHang_48 : decode cX0_reasonNotToHang 48 = .ok (.iand, 1) := by decide +kernel
theorem dX0_reasonNotToHang_49 : decode cX0_reasonNotToHang 49 = .ok (.ifCond .eq 5, 3) := by decide +kernel
theorem dX0_reasonNotToHang_52 : decode cX0_reasonNotToHang 52 = .ok (.iconst 4, 1) := by decide +kernel
theorem dX0_reasonNotToHang_53 : decode cX0_reasonNotToHang 53 = .ok (.ireturn, 1) := by decide +kernel
theorem dX0_reasonNotToHang_54 : decode cX0_reasonNotToHang 54 = .ok (.aload_n 0, 1) := by decide +kernel
theorem dX0_reasonNotToHang_55 : decode cX0_reasonNotToHang 55 = .ok (.getfield 65, 3) := by decide +kernel
theorem dX0_reasonNotToHang_58 : decode cX0_reasonNotToHang 58 = .ok (.iload_n 1, 1) := by decide +kernel
theorem dX0_reasonNotToHang_59 : decode cX0_reasonNotToHang 59 = .ok (.invokestatic 92, 3) := by decide +kernel
theorem dX0_reasonNotToHang_62 : decode cX0_reasonNotToHang 62 = .ok (.ifCond .ne 13, 3) := by decide +kernel
theorem dX0_reasonNotToHang_65 : decode cX0_reasonNotToHang 65 = .ok (.aload_n 0, 1) := by decide +kernel
theorem dX0_reasonNotToHang_66 : decode cX0_reasonNotToHang 66 = .ok (.iload_n 2, 1) := by decide +kernel
theorem dX0_reasonNotToHang_67 : decode cX0_reasonNotToHang 67 = .ok (.invokevirtual 119, 3) := by decide +kernel
theorem dX0_reasonNotToHang_70 : decode cX0_reasonNotToHang 70 = .ok (.ifCond .eq 5, 3) := by decide +kernel
theorem dX0_reasonNotToHang_73 : decode cX0_reasonNotToHang 73 = .ok (.iconst 5, 1) := by decide +kernel
theorem dX0_reasonNotToHang_74 : decode cX0_reasonNotToHang 74 = .ok (.ireturn, 1) := by decide +kernel
theorem dX0_reasonNotToHang_75 : decode cX0_reasonNotToHang 75 = .ok (.iconst 0, 1) := by decide +kernel
theorem dX0_reasonNotToHang_76 : decode cX0_reasonNotToHang 76 = .ok (.ireturn, 1) := by decide +kernel
theorem dX0_hangLine_0 : decode cX0_hangLine 0 = .ok (.aload_n 0, 1) := by decide +kernel
theorem dX0_hangLine_1 : decode cX0_hangLine 1 = .ok (.iload_n 1, 1) := by decide +kernel
theorem dX0_hangLine_2 : decode cX0_hangLine 2 = .ok (.iload_n 2, 1) := by decide +kernel
theorem dX0_hangLine_3 : decode cX0_hangLine 3 = .ok (.invokevirtual 122, 3) := by decide +kernel
theorem dX0_hangLine_6 : decode cX0_hangLine 6 = .ok (.istore_n 3, 1) := by decide +kernel
theorem dX0_hangLine_7 : decode cX0_hangLine 7 = .ok (.iload_n 3, 1) := by decide +kernel
theorem dX0_hangLine_8 : decode cX0_hangLine 8 = .ok (.ifCond .eq 15, 3) := by decide +kernel
theorem dX0_hangLine_11 : decode cX0_hangLine 11 = .ok (.aload_n 0, 1) := by decide +kernel
theorem dX0_hangLine_12 : decode cX0_hangLine 12 = .ok (.dup, 1) := by decide +kernel
theorem dX0_hangLine_13 : decode cX0_hangLine 13 = .ok (.getfield 86, 3) := by decide +kernel
theorem dX0_hangLine_16 : decode cX0_hangLine 16 = .ok (.iconst 1, 1) := by decide +kernel
theorem dX0_hangLine_17 : decode cX0_hangLine 17 = .ok (.iadd, 1) := by decide +kernel
theorem dX0_hangLine_18 : decode cX0_hangLine 18 = .ok (.putfield 86, 3) := by decide +kernel
theorem dX0_hangLine_21 : decode cX0_hangLine 21 = .ok (.iload_n 3, 1) := by decide +kernel
theorem dX0_hangLine_22 : decode cX0_hangLine 22 = .ok (.ireturn, 1) := by decide +kernel
theorem dX0_hangLine_23 : decode cX0_hangLine 23 = .ok (.aload_n 0, 1) := by decide +kernel
theorem dX0_hangLine_24 : decode cX0_hangLine 24 = .ok (.getfield 15, 3) := by decide +kernel
theorem dX0_hangLine_27 : decode cX0_hangLine 27 = .ok (.iload_n 2, 1) := by decide +kernel
theorem dX0_hangLine_28 : decode cX0_hangLine 28 = .ok (.iload_n 1, 1) := by decide +kernel
theorem dX0_hangLine_29 : decode cX0_hangLine 29 = .ok (.iastore, 1) := by decide +kernel
theorem dX0_hangLine_30 : decode cX0_hangLine 30 = .ok (.aload_n 0, 1) := by decide +kernel
theorem dX0_hangLine_31 : decode cX0_hangLine 31 = .ok (.getfield 18, 3) := by decide +kernel
theorem dX0_hangLine_34 : decode cX0_hangLine 34 = .ok (.iload_n 2, 1) := by decide +kernel
theorem dX0_hangLine_35 : decode cX0_hangLine 35 = .ok (.iconst 0, 1) := by decide +kernel
theorem dX0_hangLine_36 : decode cX0_hangLine 36 = .ok (.iastore, 1) := by decide +kernel
theorem dX0_hangLine_37 : decode cX0_hangLine 37 = .ok (.aload_n 0, 1) := by decide +kernel
theorem dX0_hangLine_38 : decode cX0_hangLine 38 = .ok (.getfield 21, 3) := by decide +kernel
theorem dX0_hangLine_41 : decode cX0_hangLine 41 = .ok (.iload_n 2, 1) := by decide +kernel
theorem dX0_hangLine_42 : decode cX0_hangLine 42 = .ok (.iconst 0, 1) := by decide +kernel
theorem dX0_hangLine_43 : decode cX0_hangLine 43 = .ok (.iastore, 1) := by decide +kernel
theorem dX0_hangLine_44 : decode cX0_hangLine 44 = .ok (.aload_n 0, 1) := by decide +kernel
theorem dX0_hangLine_45 : decode cX0_hangLine 45 = .ok (.dup, 1) := by decide +kernel
theorem dX0_hangLine_46 : decode cX0_hangLine 46 = .ok (.getfield 77, 3) := by decide +kernel
theorem dX0_hangLine_49 : decode cX0_hangLine 49 = .ok (.iconst 1, 1) := by decide +kernel
theorem dX0_hangLine_50 : decode cX0_hangLine 50 = .ok (.iadd, 1) := by decide +kernel
theorem dX0_hangLine_51 : decode cX0_hangLine 51 = .ok (.putfield 77, 3) := by decide +kernel
theorem dX0_hangLine_54 : decode cX0_hangLine 54 = .ok (.bipush 10, 2) := by decide +kernel
theorem dX0_hangLine_56 : decode cX0_hangLine 56 = .ok (.aload_n 0, 1) := by decide +kernel
theorem dX0_hangLine_57 : decode cX0_hangLine 57 = .ok (.invokevirtual 126, 3) := by decide +kernel
theorem dX0_hangLine_60 : decode cX0_hangLine 60 = .ok (.invokestatic 130, 3) := by decide +kernel
theorem dX0_hangLine_63 : decode cX0_hangLine 63 = .ok (.iadd, 1) := by decide +kernel
theorem dX0_hangLine_64 : decode cX0_hangLine 64 = .ok (.ireturn, 1) := by decide +kernel
theorem dX0_takeLine_0 : decode cX0_takeLine 0 = .ok (.aload_n 0, 1) := by decide +kernel
theorem dX0_takeLine_1 : decode cX0_takeLine 1 = .ok (.iload_n 2, 1) := by decide +kernel
theorem dX0_takeLine_2 : decode cX0_takeLine 2 = .ok (.invokevirtual 89, 3) := by decide +kernel
theorem dX0_takeLine_5 : decode cX0_takeLine 5 = .ok (.ifCond .ne 16, 3) := by decide +kernel
theorem dX0_takeLine_8 : decode cX0_takeLine 8 = .ok (.aload_n 0, 1) := by decide +kernel
theorem dX0_takeLine_9 : decode cX0_takeLine 9 = .ok (.dup, 1) := by decide +kernel
theorem dX0_takeLine_10 : decode cX0_takeLine 10 = .ok (.getfield 86, 3) := by decide +kernel
theorem dX0_takeLine_13 : decode cX0_takeLine 13 = .ok (.iconst 1, 1) := by decide +kernel
theorem dX0_takeLine_14 : decode cX0_takeLine 14 = .ok (.iadd, 1) := by decide +kernel
theorem dX0_takeLine_15 : decode cX0_takeLine 15 = .ok (.putfield 86, 3) := by decide +kernel
theorem dX0_takeLine_18 : decode cX0_takeLine 18 = .ok (.bipush 6, 2) := by decide +kernel
theorem dX0_takeLine_20 : decode cX0_takeLine 20 = .ok (.ireturn, 1) := by decide +kernel
theorem dX0_takeLine_21 : decode cX0_takeLine 21 = .ok (.aload_n 0, 1) := by decide +kernel
theorem dX0_takeLine_22 : decode cX0_takeLine 22 = .ok (.getfield 15, 3) := by decide +kernel
theorem dX0_takeLine_25 : decode cX0_takeLine 25 = .ok (.iload_n 2, 1) := by decide +kernel
theorem dX0_takeLine_26 : decode cX0_takeLine 26 = .ok (.iaload, 1) := by decide +kernel
theorem dX0_takeLine_27 : decode cX0_takeLine 27 = .ok (.iload_n 1, 1) := by decide +kernel
theorem dX0_takeLine_28 : decode cX0_takeLine 28 = .ok (.if_icmp .eq 16, 3) := by decide +kernel
theorem dX0_takeLine_31 : decode cX0_takeLine 31 = .ok (.aload_n 0, 1) := by decide +kernel
theorem dX0_takeLine_32 : decode cX0_takeLine 32 = .ok (.dup, 1) := by decide +kernel
theorem dX0_takeLine_33 : decode cX0_takeLine 33 = .ok (.getfield 86, 3) := by decide +kernel
theorem dX0_takeLine_36 : decode cX0_takeLine 36 = .ok (.iconst 1, 1) := by decide +kernel
theorem dX0_takeLine_37 : decode cX0_takeLine 37 = .ok (.iadd, 1) := by decide +kernel
theorem dX0_takeLine_38 : decode cX0_takeLine 38 = .ok (.putfield 86, 3) := by decide +kernel
theorem dX0_takeLine_41 : decode cX0_takeLine 41 = .ok (.bipush 7, 2) := by decide +kernel
theorem dX0_takeLine_43 : decode cX0_takeLine 43 = .ok (.ireturn, 1) := by decide +kernel
theorem dX0_takeLine_44 : decode cX0_takeLine 44 = .ok (.aload_n 0, 1) := by decide +kernel
theorem dX0_takeLine_45 : decode cX0_takeLine 45 = .ok (.getfield 15, 3) := by decide +kernel
theorem dX0_takeLine_48 : decode cX0_takeLine 48 = .ok (.iload_n 2, 1) := by decide +kernel
theorem dX0_takeLine_49 : decode cX0_takeLine 49 = .ok (.iconst (-1), 1) := by decide +kernel
theorem dX0_takeLine_50 : decode cX0_takeLine 50 = .ok (.iastore, 1) := by decide +kernel
theorem dX0_takeLine_51 : decode cX0_takeLine 51 = .ok (.aload_n 0, 1) := by decide +kernel
theorem dX0_takeLine_52 : decode cX0_takeLine 52 = .ok (.dup, 1) := by decide +kernel
theorem dX0_takeLine_53 : decode cX0_takeLine 53 = .ok (.getfield 80, 3) := by decide +kernel
theorem dX0_takeLine_56 : decode cX0_takeLine 56 = .ok (.iconst 1, 1) := by decide +kernel
theorem dX0_takeLine_57 : decode cX0_takeLine 57 = .ok (.iadd, 1) := by decide +kernel
theorem dX0_takeLine_58 : decode cX0_takeLine 58 = .ok (.putfield 80, 3) := by decide +kernel
theorem dX0_takeLine_61 : decode cX0_takeLine 61 = .ok (.bipush 10, 2) := by decide +kernel
theorem dX0_takeLine_63 : decode cX0_takeLine 63 = .ok (.aload_n 0, 1) := by decide +kernel
theorem dX0_takeLine_64 : decode cX0_takeLine 64 = .ok (.getfield 18, 3) := by decide +kernel
theorem dX0_takeLine_67 : decode cX0_takeLine 67 = .ok (.iload_n 2, 1) := by decide +kernel
theorem dX0_takeLine_68 : decode cX0_takeLine 68 = .ok (.iaload, 1) := by decide +kernel
theorem dX0_takeLine_69 : decode cX0_takeLine 69 = .ok (.iadd, 1) := by decide +kernel
theorem dX0_takeLine_70 : decode cX0_takeLine 70 = .ok (.aload_n 0, 1) := by decide +kernel
theorem dX0_takeLine_71 : decode cX0_takeLine 71 = .ok (.getfield 21, 3) := by decide +kernel
theorem dX0_takeLine_74 : decode cX0_takeLine 74 = .ok (.iload_n 2, 1) := by decide +kernel
theorem dX0_takeLine_75 : decode cX0_takeLine 75 = .ok (.iaload, 1) := by decide +kernel
theorem dX0_takeLine_76 : decode cX0_takeLine 76 = .ok (.iadd, 1) := by decide +kernel
theorem dX0_takeLine_77 : decode cX0_takeLine 77 = .ok (.ireturn, 1) := by decide +kernel
theorem dX0_standsAt_0 : decode cX0_standsAt 0 = .ok (.iload_n 2, 1) := by decide +kernel
theorem dX0_standsAt_1 : decode cX0_standsAt 1 = .ok (.invokestatic 104, 3) := by decide +kernel
theorem dX0_standsAt_4 : decode cX0_standsAt 4 = .ok (.aload_n 0, 1) := by decide +kernel
theorem dX0_standsAt_5 : decode cX0_standsAt 5 = .ok (.getfield 30, 3) := by decide +kernel
theorem dX0_standsAt_8 : decode cX0_standsAt 8 = .ok (.iload_n 1, 1) := by decide +kernel
theorem dX0_standsAt_9 : decode cX0_standsAt 9 = .ok (.iaload, 1) := by decide +kernel
theorem dX0_standsAt_10 : decode cX0_standsAt 10 = .ok (.invokestatic 92, 3) := by decide +kernel
theorem dX0_standsAt_13 : decode cX0_standsAt 13 = .ok (.ireturn, 1) := by decide +kernel
theorem dX0_reasonNotToWalk_0 : decode cX0_reasonNotToWalk 0 = .ok (.aload_n 0, 1) := by decide +kernel
theorem dX0_reasonNotToWalk_1 : decode cX0_reasonNotToWalk 1 = .ok (.iload_n 2, 1) := by decide +kernel
theorem dX0_reasonNotToWalk_2 : decode cX0_reasonNotToWalk 2 = .ok (.invokevirtual 116, 3) := by decide +kernel
theorem dX0_reasonNotToWalk_5 : decode cX0_reasonNotToWalk 5 = .ok (.ifCond .ne 5, 3) := by decide +kernel
theorem dX0_reasonNotToWalk_8 : decode cX0_reasonNotToWalk 8 = .ok (.iconst 1, 1) := by decide +kernel
theorem dX0_reasonNotToWalk_9 : decode cX0_reasonNotToWalk 9 = .ok (.ireturn, 1) := by decide +kernel
theorem dX0_reasonNotToWalk_10 : decode cX0_reasonNotToWalk 10 = .ok (.aload_n 0, 1) := by decide +kernel
theorem dX0_reasonNotToWalk_11 : decode cX0_reasonNotToWalk 11 = .ok (.getfield 9, 3) := by decide +kernel
theorem dX0_reasonNotToWalk_14 : decode cX0_reasonNotToWalk 14 = .ok (.iload_n 2, 1) := by decide +kernel
theorem dX0_reasonNotToWalk_15 : decode cX0_reasonNotToWalk 15 = .ok (.iaload, 1) := by decide +kernel
theorem dX0_reasonNotToWalk_16 : decode cX0_reasonNotToWalk 16 = .ok (.aload_n 0, 1) := by decide +kernel
theorem dX0_reasonNotToWalk_17 : decode cX0_reasonNotToWalk 17 = .ok (.getfield 24, 3) := by decide +kernel
theorem dX0_reasonNotToWalk_20 : decode cX0_reasonNotToWalk 20 = .ok (.iload_n 1, 1) := by decide +kernel
theorem dX0_reasonNotToWalk_21 : decode cX0_reasonNotToWalk 21 = .ok (.iaload, 1) := by decide +kernel
theorem dX0_reasonNotToWalk_22 : decode cX0_reasonNotToWalk 22 = .ok (.if_icmp .ge 6, 3) := by decide +kernel
theorem dX0_reasonNotToWalk_25 : decode cX0_reasonNotToWalk 25 = .ok (.bipush 8, 2) := by decide +kernel
theorem dX0_reasonNotToWalk_27 : decode cX0_reasonNotToWalk 27 = .ok (.ireturn, 1) := by decide +kernel
theorem dX0_reasonNotToWalk_28 : decode cX0_reasonNotToWalk 28 = .ok (.aload_n 0, 1) := by decide +kernel
theorem dX0_reasonNotToWalk_29 : decode cX0_reasonNotToWalk 29 = .ok (.iload_n 2, 1) := by decide +kernel
theorem dX0_reasonNotToWalk_30 : decode cX0_reasonNotToWalk 30 = .ok (.invokevirtual 89, 3) := by decide +kernel
theorem dX0_reasonNotToWalk_33 : decode cX0_reasonNotToWalk 33 = .ok (.ifCond .eq 16, 3) := by decide +kernel
theorem dX0_reasonNotToWalk_36 : decode cX0_reasonNotToWalk 36 = .ok (.aload_n 0, 1) := by decide +kernel
theorem dX0_reasonNotToWalk_37 : decode cX0_reasonNotToWalk 37 = .ok (.getfield 15, 3) := by decide +kernel
theorem dX0_reasonNotToWalk_40 : decode cX0_reasonNotToWalk 40 = .ok (.iload_n 2, 1) := by decide +kernel
theorem dX0_reasonNotToWalk_41 : decode cX0_reasonNotToWalk 41 = .ok (.iaload, 1) := by decide +kernel
theorem dX0_reasonNotToWalk_42 : decode cX0_reasonNotToWalk 42 = .ok (.iload_n 1, 1) := by decide +kernel
theorem dX0_reasonNotToWalk_43 : decode cX0_reasonNotToWalk 43 = .ok (.if_icmp .eq 6, 3) := by decide +kernel
theorem dX0_reasonNotToWalk_46 : decode cX0_reasonNotToWalk 46 = .ok (.bipush 9, 2) := by decide +kernel
theorem dX0_reasonNotToWalk_48 : decode cX0_reasonNotToWalk 48 = .ok (.ireturn, 1) := by decide +kernel
theorem dX0_reasonNotToWalk_49 : decode cX0_reasonNotToWalk 49 = .ok (.aload_n 0, 1) := by decide +kernel
theorem dX0_reasonNotToWalk_50 : decode cX0_reasonNotToWalk 50 = .ok (.getfield 27, 3) := by decide +kernel
theorem dX0_reasonNotToWalk_53 : decode cX0_reasonNotToWalk 53 = .ok (.iload_n 1, 1) := by decide +kernel
theorem dX0_reasonNotToWalk_54 : decode cX0_reasonNotToWalk 54 = .ok (.iaload, 1) := by decide +kernel
theorem dX0_reasonNotToWalk_55 : decode cX0_reasonNotToWalk 55 = .ok (.iload_n 3, 1) := by decide +kernel
theorem dX0_reasonNotToWalk_56 : decode cX0_reasonNotToWalk 56 = .ok (.invokestatic 92, 3) := by decide +kernel
theorem dX0_reasonNotToWalk_59 : decode cX0_reasonNotToWalk 59 = .ok (.ifCond .ne 5, 3) := by decide +kernel
theorem dX0_reasonNotToWalk_62 : decode cX0_reasonNotToWalk 62 = .ok (.iconst 3, 1) := by decide +kernel
theorem dX0_reasonNotToWalk_63 : decode cX0_reasonNotToWalk 63 = .ok (.ireturn, 1) := by decide +kernel
theorem dX0_reasonNotToWalk_64 : decode cX0_reasonNotToWalk 64 = .ok (.iconst 0, 1) := by decide +kernel
theorem dX0_reasonNotToWalk_65 : decode cX0_reasonNotToWalk 65 = .ok (.ireturn, 1) := by decide +kernel
theorem dX0_walkOver_0 : decode cX0_walkOver 0 = .ok (.iload_n 2, 1) := by decide +kernel
theorem dX0_walkOver_1 : decode cX0_walkOver 1 = .ok (.aload_n 0, 1) := by decide +kernel
theorem dX0_walkOver_2 : decode cX0_walkOver 2 = .ok (.getfield 30, 3) := by decide +kernel
theorem dX0_walkOver_5 : decode cX0_walkOver 5 = .ok (.iload_n 1, 1) := by decide +kernel
theorem dX0_walkOver_6 : decode cX0_walkOver 6 = .ok (.iaload, 1) := by decide +kernel
theorem dX0_walkOver_7 : decode cX0_walkOver 7 = .ok (.invokestatic 135, 3) := by decide +kernel
theorem dX0_walkOver_10 : decode cX0_walkOver 10 = .ok (.istore_n 3, 1) := by decide +kernel
theorem dX0_walkOver_11 : decode cX0_walkOver 11 = .ok (.aload_n 0, 1) := by decide +kernel
theorem dX0_walkOver_12 : decode cX0_walkOver 12 = .ok (.iload_n 1, 1) := by decide +kernel
theorem dX0_walkOver_13 : decode cX0_walkOver 13 = .ok (.iload_n 2, 1) := by decide +kernel
theorem dX0_walkOver_14 : decode cX0_walkOver 14 = .ok (.iload_n 3, 1) := by decide +kernel
theorem dX0_walkOver_15 : decode cX0_walkOver 15 = .ok (.invokevirtual 138, 3) := by decide +kernel
theorem dX0_walkOver_18 : decode cX0_walkOver 18 = .ok (.istore 4, 2) := by decide +kernel
theorem dX0_walkOver_20 : decode cX0_walkOver 20 = .ok (.iload 4, 2) := by decide +kernel
theorem dX0_walkOver_22 : decode cX0_walkOver 22 = .ok (.ifCond .eq 16, 3) := by decide +kernel
theorem dX0_walkOver_25 : decode cX0_walkOver 25 = .ok (.aload_n 0, 1) := by decide +kernel
theorem dX0_walkOver_26 : decode cX0_walkOver 26 = .ok (.dup, 1) := by decide +kernel
theorem dX0_walkOver_27 : decode cX0_walkOver 27 = .ok (.getfield 86, 3) := by decide +kernel
theorem dX0_walkOver_30 : decode cX0_walkOver 30 = .ok (.iconst 1, 1) := by decide +kernel
theorem dX0_walkOver_31 : decode cX0_walkOver 31 = .ok (.iadd, 1) := by decide +kernel
theorem dX0_walkOver_32 : decode cX0_walkOver 32 = .ok (.putfield 86, 3) := by decide +kernel
theorem dX0_walkOver_35 : decode cX0_walkOver 35 = .ok (.iload 4, 2) := by decide +kernel
theorem dX0_walkOver_37 : decode cX0_walkOver 37 = .ok (.ireturn, 1) := by decide +kernel
theorem dX0_walkOver_38 : decode cX0_walkOver 38 = .ok (.aload_n 0, 1) := by decide +kernel
theorem dX0_walkOver_39 : decode cX0_walkOver 39 = .ok (.getfield 30, 3) := by decide +kernel
theorem dX0_walkOver_42 : decode cX0_walkOver 42 = .ok (.iload_n 1, 1) := by decide +kernel
theorem dX0_walkOver_43 : decode cX0_walkOver 43 = .ok (.iload_n 3, 1) := by decide +kernel
theorem dX0_walkOver_44 : decode cX0_walkOver 44 = .ok (.iastore, 1) := by decide +kernel
theorem dX0_walkOver_45 : decode cX0_walkOver 45 = .ok (.aload_n 0, 1) := by decide +kernel
theorem dX0_walkOver_46 : decode cX0_walkOver 46 = .ok (.getfield 33, 3) := by decide +kernel
theorem dX0_walkOver_49 : decode cX0_walkOver 49 = .ok (.iload_n 1, 1) := by decide +kernel
theorem dX0_walkOver_50 : decode cX0_walkOver 50 = .ok (.dup2, 1) := by decide +kernel
theorem dX0_walkOver_51 : decode cX0_walkOver 51 = .ok (.iaload, 1) := by decide +kernel
theorem dX0_walkOver_52 : decode cX0_walkOver 52 = .ok (.iconst 1, 1) := by decide +kernel
theorem dX0_walkOver_53 : decode cX0_walkOver 53 = .ok (.iadd, 1) := by decide +kernel
theorem dX0_walkOver_54 : decode cX0_walkOver 54 = .ok (.iastore, 1) := by decide +kernel
theorem dX0_walkOver_55 : decode cX0_walkOver 55 = .ok (.bipush 10, 2) := by decide +kernel
theorem dX0_walkOver_57 : decode cX0_walkOver 57 = .ok (.iload_n 3, 1) := by decide +kernel
theorem dX0_walkOver_58 : decode cX0_walkOver 58 = .ok (.iadd, 1) := by decide +kernel
theorem dX0_walkOver_59 : decode cX0_walkOver 59 = .ok (.ireturn, 1) := by decide +kernel
theorem dX0_passDay_0 : decode cX0_passDay 0 = .ok (.aload_n 0, 1) := by decide +kernel
theorem dX0_passDay_1 : decode cX0_passDay 1 = .ok (.dup, 1) := by decide +kernel
theorem dX0_passDay_2 : decode cX0_passDay 2 = .ok (.getfield 74, 3) := by decide +kernel
theorem dX0_passDay_5 : decode cX0_passDay 5 = .ok (.iconst 1, 1) := by decide +kernel
theorem dX0_passDay_6 : decode cX0_passDay 6 = .ok (.iadd, 1) := by decide +kernel
theorem dX0_passDay_7 : decode cX0_passDay 7 = .ok (.putfield 74, 3) := by decide +kernel
theorem dX0_passDay_10 : decode cX0_passDay 10 = .ok (.aload_n 0, 1) := by decide +kernel
theorem dX0_passDay_11 : decode cX0_passDay 11 = .ok (.aload_n 0, 1) := by decide +kernel
theorem dX0_passDay_12 : decode cX0_passDay 12 = .ok (.getfield 36, 3) := by decide +kernel
theorem dX0_passDay_15 : decode cX0_passDay 15 = .ok (.invokevirtual 100, 3) := by decide +kernel
theorem dX0_passDay_18 : decode cX0_passDay 18 = .ok (.istore_n 1, 1) := by decide +kernel
theorem dX0_passDay_19 : decode cX0_passDay 19 = .ok (.iconst 0, 1) := by decide +kernel
theorem dX0_passDay_20 : decode cX0_passDay 20 = .ok (.istore_n 2, 1) := by decide +kernel
theorem dX0_passDay_21 : decode cX0_passDay 21 = .ok (.iload_n 2, 1) := by decide +kernel
theorem dX0_passDay_22 : decode cX0_passDay 22 = .ok (.bipush 28, 2) := by decide +kernel
theorem dX0_passDay_24 : decode cX0_passDay 24 = .ok (.if_icmp .ge 23, 3) := by decide +kernel
theorem dX0_passDay_27 : decode cX0_passDay 27 = .ok (.aload_n 0, 1) := by decide +kernel
theorem dX0_passDay_28 : decode cX0_passDay 28 = .ok (.iload_n 2, 1) := by decide +kernel
theorem dX0_passDay_29 : decode cX0_passDay 29 = .ok (.invokevirtual 89, 3) := by decide +kernel
theorem dX0_passDay_32 : decode cX0_passDay 32 = .ok (.ifCond .eq 9, 3) := by decide +kernel
theorem dX0_passDay_35 : decode cX0_passDay 35 = .ok (.aload_n 0, 1) := by decide +kernel
theorem dX0_passDay_36 : decode cX0_passDay 36 = .ok (.iload_n 2, 1) := by decide +kernel
theorem dX0_passDay_37 : decode cX0_passDay 37 = .ok (.iload_n 1, 1) := by decide +kernel
theorem dX0_passDay_38 : decode cX0_passDay 38 = .ok (.invokevirtual 141, 3) := by decide +kernel
theorem dX0_passDay_41 : decode cX0_passDay 41 = .ok (.iinc 2 1, 3) := by decide +kernel
theorem dX0_passDay_44 : decode cX0_passDay 44 = .ok (.goto (-23), 3) := by decide +kernel
theorem dX0_passDay_47 : decode cX0_passDay 47 = .ok (.aload_n 0, 1) := by decide +kernel
theorem dX0_passDay_48 : decode cX0_passDay 48 = .ok (.sipush 421, 3) := by decide +kernel
theorem dX0_passDay_51 : decode cX0_passDay 51 = .ok (.aload_n 0, 1) := by decide +kernel
theorem dX0_passDay_52 : decode cX0_passDay 52 = .ok (.getfield 43, 3) := by decide +kernel
theorem dX0_passDay_55 : decode cX0_passDay 55 = .ok (.imul, 1) := by decide +kernel
theorem dX0_passDay_56 : decode cX0_passDay 56 = .ok (.sipush 1663, 3) := by decide +kernel
theorem dX0_passDay_59 : decode cX0_passDay 59 = .ok (.iadd, 1) := by decide +kernel
theorem dX0_passDay_60 : decode cX0_passDay 60 = .ok (.sipush 10000, 3) := by decide +kernel
theorem dX0_passDay_63 : decode cX0_passDay 63 = .ok (.irem, 1) := by decide +kernel
theorem dX0_passDay_64 : decode cX0_passDay 64 = .ok (.putfield 43, 3) := by decide +kernel
theorem dX0_passDay_67 : decode cX0_passDay 67 = .ok (.aload_n 0, 1) := by decide +kernel
theorem dX0_passDay_68 : decode cX0_passDay 68 = .ok (.getfield 43, 3) := by decide +kernel
theorem dX0_passDay_71 : decode cX0_passDay 71 = .ok (.iconst 4, 1) := by decide +kernel
theorem dX0_passDay_72 : decode cX0_passDay 72 = .ok (.irem, 1) := by decide +kernel
theorem dX0_passDay_73 : decode cX0_passDay 73 = .ok (.ifCond .ne 15, 3) := by decide +kernel
theorem dX0_passDay_76 : decode cX0_passDay 76 = .ok (.aload_n 0, 1) := by decide +kernel
theorem dX0_passDay_77 : decode cX0_passDay 77 = .ok (.aload_n 0, 1) := by decide +kernel
theorem dX0_passDay_78 : decode cX0_passDay 78 = .ok (.getfield 36, 3) := by decide +kernel
theorem dX0_passDay_81 : decode cX0_passDay 81 = .ok (.iconst 1, 1) := by decide +kernel
theorem dX0_passDay_82 : decode cX0_passDay 82 = .ok (.iadd, 1) := by decide +kernel
theorem dX0_passDay_83 : decode cX0_passDay 83 = .ok (.iconst 4, 1) := by decide +kernel
theorem dX0_passDay_84 : decode cX0_passDay 84 = .ok (.irem, 1) := by decide +kernel
theorem dX0_passDay_85 : decode cX0_passDay 85 = .ok (.putfield 36, 3) := by decide +kernel
theorem dX0_passDay_88 : decode cX0_passDay 88 = .ok (.return_, 1) := by decide +kernel
theorem dX0_soilLine_0 : decode cX0_soilLine 0 = .ok (.iload_n 1, 1) := by decide +kernel
theorem dX0_soilLine_1 : decode cX0_soilLine 1 = .ok (.invokestatic 104, 3) := by decide +kernel
theorem dX0_soilLine_4 : decode cX0_soilLine 4 = .ok (.istore_n 3, 1) := by decide +kernel
theorem dX0_soilLine_5 : decode cX0_soilLine 5 = .ok (.aload_n 0, 1) := by decide +kernel
theorem dX0_soilLine_6 : decode cX0_soilLine 6 = .ok (.getfield 18, 3) := by decide +kernel
theorem dX0_soilLine_9 : decode cX0_soilLine 9 = .ok (.iload_n 1, 1) := by decide +kernel
theorem dX0_soilLine_10 : decode cX0_soilLine 10 = .ok (.dup2, 1) := by decide +kernel
theorem dX0_soilLine_11 : decode cX0_soilLine 11 = .ok (.iaload, 1) := by decide +kernel
theorem dX0_soilLine_12 : decode cX0_soilLine 12 = .ok (.iload_n 2, 1) := by decide +kernel
theorem dX0_soilLine_13 : decode cX0_soilLine 13 = .ok (.iload_n 3, 1) := by decide +kernel
theorem dX0_soilLine_14 : decode cX0_soilLine 14 = .ok (.iand, 1) := by decide +kernel
theorem dX0_soilLine_15 : decode cX0_soilLine 15 = .ok (.invokestatic 130, 3) := by decide +kernel
theorem dX0_soilLine_18 : decode cX0_soilLine 18 = .ok (.iadd, 1) := by decide +kernel
theorem dX0_soilLine_19 : decode cX0_soilLine 19 = .ok (.iastore, 1) := by decide +kernel
theorem dX0_soilLine_20 : decode cX0_soilLine 20 = .ok (.aload_n 0, 1) := by decide +kernel
theorem dX0_soilLine_21 : decode cX0_soilLine 21 = .ok (.getfield 65, 3) := by decide +kernel
theorem dX0_soilLine_24 : decode cX0_soilLine 24 = .ok (.aload_n 0, 1) := by decide +kernel
theorem dX0_soilLine_25 : decode cX0_soilLine 25 = .ok (.getfield 15, 3) := by decide +kernel
theorem dX0_soilLine_28 : decode cX0_soilLine 28 = .ok (.iload_n 1, 1) := by decide +kernel
theorem dX0_soilLine_29 : decode cX0_soilLine 29 = .ok (.iaload, 1) := by decide +kernel
theorem dX0_soilLine_30 : decode cX0_soilLine 30 = .ok (.invokestatic 92, 3) := by decide +kernel
theorem dX0_soilLine_33 : decode cX0_soilLine 33 = .ok (.ifCond .ne 21, 3) := by decide +kernel
theorem dX0_soilLine_36 : decode cX0_soilLine 36 = .ok (.aload_n 0, 1) := by decide +kernel
theorem dX0_soilLine_37 : decode cX0_soilLine 37 = .ok (.getfield 21, 3) := by decide +kernel
theorem dX0_soilLine_40 : decode cX0_soilLine 40 = .ok (.iload_n 1, 1) := by decide +kernel
theorem dX0_soilLine_41 : decode cX0_soilLine 41 = .ok (.dup2, 1) := by decide +kernel
theorem dX0_soilLine_42 : decode cX0_soilLine 42 = .ok (.iaload, 1) := by decide +kernel
theorem dX0_soilLine_43 : decode cX0_soilLine 43 = .ok (.aload_n 0, 1) := by decide +kernel
theorem dX0_soilLine_44 : decode cX0_soilLine 44 = .ok (.getfield 71, 3) := by decide +kernel
theorem dX0_soilLine_47 : decode cX0_soilLine 47 = .ok (.iload_n 3, 1) := by decide +kernel
theorem dX0_soilLine_48 : decode cX0_soilLine 48 = .ok (.iand, 1) := by decide +kernel
theorem dX0_soilLine_49 : decode cX0_soilLine 49 = .ok (.invokestatic 130, 3) := by decide +kernel
theorem dX0_soilLine_52 : decode cX0_soilLine 52 = .ok (.iadd, 1) := by decide +kernel
theorem dX0_soilLine_53 : decode cX0_soilLine 53 = .ok (.iastore, 1) := by decide +kernel
theorem dX0_soilLine_54 : decode cX0_soilLine 54 = .ok (.return_, 1) := by decide +kernel
theorem dX0_allLines_0 : decode cX0_allLines 0 = .ok (.iconst 0, 1) := by decide +kernel
theorem dX0_allLines_1 : decode cX0_allLines 1 = .ok (.istore_n 1, 1) := by decide +kernel
theorem dX0_allLines_2 : decode cX0_allLines 2 = .ok (.iconst 0, 1) := by decide +kernel
theorem dX0_allLines_3 : decode cX0_allLines 3 = .ok (.istore_n 2, 1) := by decide +kernel
theorem dX0_allLines_4 : decode cX0_allLines 4 = .ok (.iload_n 2, 1) := by decide +kernel
theorem dX0_allLines_5 : decode cX0_allLines 5 = .ok (.bipush 28, 2) := by decide +kernel
theorem dX0_allLines_7 : decode cX0_allLines 7 = .ok (.if_icmp .ge 23, 3) := by decide +kernel
theorem dX0_allLines_10 : decode cX0_allLines 10 = .ok (.aload_n 0, 1) := by decide +kernel
theorem dX0_allLines_11 : decode cX0_allLines 11 = .ok (.iload_n 2, 1) := by decide +kernel
theorem dX0_allLines_12 : decode cX0_allLines 12 = .ok (.invokevirtual 89, 3) := by decide +kernel
theorem dX0_allLines_15 : decode cX0_allLines 15 = .ok (.ifCond .eq 9, 3) := by decide +kernel
theorem dX0_allLines_18 : decode cX0_allLines 18 = .ok (.iload_n 1, 1) := by decide +kernel
theorem dX0_allLines_19 : decode cX0_allLines 19 = .ok (.iconst 1, 1) := by decide +kernel
theorem dX0_allLines_20 : decode cX0_allLines 20 = .ok (.iload_n 2, 1) := by decide +kernel
theorem dX0_allLines_21 : decode cX0_allLines 21 = .ok (.ishl, 1) := by decide +kernel
theorem dX0_allLines_22 : decode cX0_allLines 22 = .ok (.ior, 1) := by decide +kernel
theorem dX0_allLines_23 : decode cX0_allLines 23 = .ok (.istore_n 1, 1) := by decide +kernel
theorem dX0_allLines_24 : decode cX0_allLines 24 = .ok (.iinc 2 1, 3) := by decide +kernel
theorem dX0_allLines_27 : decode cX0_allLines 27 = .ok (.goto (-23), 3) := by decide +kernel
theorem dX0_allLines_30 : decode cX0_allLines 30 = .ok (.iload_n 1, 1) := by decide +kernel
theorem dX0_allLines_31 : decode cX0_allLines 31 = .ok (.ireturn, 1) := by decide +kernel
theorem dX0_cleanLines_0 : decode cX0_cleanLines 0 = .ok (.iconst 0, 1) := by decide +kernel
theorem dX0_cleanLines_1 : decode cX0_cleanLines 1 = .ok (.istore_n 1, 1) := by decide +kernel
theorem dX0_cleanLines_2 : decode cX0_cleanLines 2 = .ok (.iconst 0, 1) := by decide +kernel
theorem dX0_cleanLines_3 : decode cX0_cleanLines 3 = .ok (.istore_n 2, 1) := by decide +kernel
theorem dX0_cleanLines_4 : decode cX0_cleanLines 4 = .ok (.iload_n 2, 1) := by decide +kernel
theorem dX0_cleanLines_5 : decode cX0_cleanLines 5 = .ok (.bipush 28, 2) := by decide +kernel
theorem dX0_cleanLines_7 : decode cX0_cleanLines 7 = .ok (.if_icmp .ge 41, 3) := by decide +kernel
theorem dX0_cleanLines_10 : decode cX0_cleanLines 10 = .ok (.aload_n 0, 1) := by decide +kernel
theorem dX0_cleanLines_11 : decode cX0_cleanLines 11 = .ok (.iload_n 2, 1) := by decide +kernel
theorem dX0_cleanLines_12 : decode cX0_cleanLines 12 = .ok (.invokevirtual 89, 3) := by decide +kernel
theorem dX0_cleanLines_15 : decode cX0_cleanLines 15 = .ok (.ifCond .eq 27, 3) := by decide +kernel
theorem dX0_cleanLines_18 : decode cX0_cleanLines 18 = .ok (.aload_n 0, 1) := by decide +kernel
theorem dX0_cleanLines_19 : decode cX0_cleanLines 19 = .ok (.getfield 18, 3) := by decide +kernel
theorem dX0_cleanLines_22 : decode cX0_cleanLines 22 = .ok (.iload_n 2, 1) := by decide +kernel
theorem dX0_cleanLines_23 : decode cX0_cleanLines 23 = .ok (.iaload, 1) := by decide +kernel
theorem dX0_cleanLines_24 : decode cX0_cleanLines 24 = .ok (.ifCond .ne 18, 3) := by decide +kernel
theorem dX0_cleanLines_27 : decode cX0_cleanLines 27 = .ok (.aload_n 0, 1) := by decide +kernel
theorem dX0_cleanLines_28 : decode cX0_cleanLines 28 = .ok (.getfield 21, 3) := by decide +kernel
theorem dX0_cleanLines_31 : decode cX0_cleanLines 31 = .ok (.iload_n 2, 1) := by decide +kernel
theorem dX0_cleanLines_32 : decode cX0_cleanLines 32 = .ok (.iaload, 1) := by decide +kernel
theorem dX0_cleanLines_33 : decode cX0_cleanLines 33 = .ok (.ifCond .ne 9, 3) := by decide +kernel
theorem dX0_cleanLines_36 : decode cX0_cleanLines 36 = .ok (.iload_n 1, 1) := by decide +kernel
theorem dX0_cleanLines_37 : decode cX0_cleanLines 37 = .ok (.iconst 1, 1) := by decide +kernel
theorem dX0_cleanLines_38 : decode cX0_cleanLines 38 = .ok (.iload_n 2, 1) := by decide +kernel
theorem dX0_cleanLines_39 : decode cX0_cleanLines 39 = .ok (.ishl, 1) := by decide +kernel
theorem dX0_cleanLines_40 : decode cX0_cleanLines 40 = .ok (.ior, 1) := by decide +kernel
theorem dX0_cleanLines_41 : decode cX0_cleanLines 41 = .ok (.istore_n 1, 1) := by decide +kernel
theorem dX0_cleanLines_42 : decode cX0_cleanLines 42 = .ok (.iinc 2 1, 3) := by decide +kernel
theorem dX0_cleanLines_45 : decode cX0_cleanLines 45 = .ok (.goto (-41), 3) := by decide +kernel
theorem dX0_cleanLines_48 : decode cX0_cleanLines 48 = .ok (.iload_n 1, 1) := by decide +kernel
theorem dX0_cleanLines_49 : decode cX0_cleanLines 49 = .ok (.ireturn, 1) := by decide +kernel
theorem dX0_linesOf_0 : decode cX0_linesOf 0 = .ok (.iconst 0, 1) := by decide +kernel
theorem dX0_linesOf_1 : decode cX0_linesOf 1 = .ok (.istore_n 2, 1) := by decide +kernel
theorem dX0_linesOf_2 : decode cX0_linesOf 2 = .ok (.iconst 0, 1) := by decide +kernel
theorem dX0_linesOf_3 : decode cX0_linesOf 3 = .ok (.istore_n 3, 1) := by decide +kernel
theorem dX0_linesOf_4 : decode cX0_linesOf 4 = .ok (.iload_n 3, 1) := by decide +kernel
theorem dX0_linesOf_5 : decode cX0_linesOf 5 = .ok (.bipush 28, 2) := by decide +kernel
theorem dX0_linesOf_7 : decode cX0_linesOf 7 = .ok (.if_icmp .ge 25, 3) := by decide +kernel
theorem dX0_linesOf_10 : decode cX0_linesOf 10 = .ok (.aload_n 0, 1) := by decide +kernel
theorem dX0_linesOf_11 : decode cX0_linesOf 11 = .ok (.getfield 15, 3) := by decide +kernel
theorem dX0_linesOf_14 : decode cX0_linesOf 14 = .ok (.iload_n 3, 1) := by decide +kernel
theorem dX0_linesOf_15 : decode cX0_linesOf 15 = .ok (.iaload, 1) := by decide +kernel
theorem dX0_linesOf_16 : decode cX0_linesOf 16 = .ok (.iload_n 1, 1) := by decide +kernel
theorem dX0_linesOf_17 : decode cX0_linesOf 17 = .ok (.if_icmp .ne 9, 3) := by decide +kernel
theorem dX0_linesOf_20 : decode cX0_linesOf 20 = .ok (.iload_n 2, 1) := by decide +kernel
theorem dX0_linesOf_21 : decode cX0_linesOf 21 = .ok (.iconst 1, 1) := by decide +kernel
theorem dX0_linesOf_22 : decode cX0_linesOf 22 = .ok (.iload_n 3, 1) := by decide +kernel
theorem dX0_linesOf_23 : decode cX0_linesOf 23 = .ok (.ishl, 1) := by decide +kernel
theorem dX0_linesOf_24 : decode cX0_linesOf 24 = .ok (.ior, 1) := by decide +kernel
theorem dX0_linesOf_25 : decode cX0_linesOf 25 = .ok (.istore_n 2, 1) := by decide +kernel
theorem dX0_linesOf_26 : decode cX0_linesOf 26 = .ok (.iinc 3 1, 3) := by decide +kernel
theorem dX0_linesOf_29 : decode cX0_linesOf 29 = .ok (.goto (-25), 3) := by decide +kernel
theorem dX0_linesOf_32 : decode cX0_linesOf 32 = .ok (.iload_n 2, 1) := by decide +kernel
theorem dX0_linesOf_33 : decode cX0_linesOf 33 = .ok (.ireturn, 1) := by decide +kernel
theorem dX0_linesSmokedBy_0 : decode cX0_linesSmokedBy 0 = .ok (.aload_n 0, 1) := by decide +kernel
theorem dX0_linesSmokedBy_1 : decode cX0_linesSmokedBy 1 = .ok (.iload_n 1, 1) := by decide +kernel
theorem dX0_linesSmokedBy_2 : decode cX0_linesSmokedBy 2 = .ok (.invokevirtual 100, 3) := by decide +kernel
theorem dX0_linesSmokedBy_5 : decode cX0_linesSmokedBy 5 = .ok (.istore_n 2, 1) := by decide +kernel
theorem dX0_linesSmokedBy_6 : decode cX0_linesSmokedBy 6 = .ok (.iconst 0, 1) := by decide +kernel
theorem dX0_linesSmokedBy_7 : decode cX0_linesSmokedBy 7 = .ok (.istore_n 3, 1) := by decide +kernel
theorem dX0_linesSmokedBy_8 : decode cX0_linesSmokedBy 8 = .ok (.iconst 0, 1) := by decide +kernel
theorem dX0_linesSmokedBy_9 : decode cX0_linesSmokedBy 9 = .ok (.istore 4, 2) := by decide +kernel
theorem dX0_linesSmokedBy_11 : decode cX0_linesSmokedBy 11 = .ok (.iload 4, 2) := by decide +kernel
theorem dX0_linesSmokedBy_13 : decode cX0_linesSmokedBy 13 = .ok (.bipush 28, 2) := by decide +kernel
theorem dX0_linesSmokedBy_15 : decode cX0_linesSmokedBy 15 = .ok (.if_icmp .ge 31, 3) := by decide +kernel
theorem dX0_linesSmokedBy_18 : decode cX0_linesSmokedBy 18 = .ok (.aload_n 0, 1) := by decide +kernel
theorem dX0_linesSmokedBy_19 : decode cX0_linesSmokedBy 19 = .ok (.iload 4, 2) := by decide +kernel
theorem dX0_linesSmokedBy_21 : decode cX0_linesSmokedBy 21 = .ok (.invokevirtual 89, 3) := by decide +kernel
theorem dX0_linesSmokedBy_24 : decode cX0_linesSmokedBy 24 = .ok (.ifCond .eq 16, 3) := by decide +kernel
theorem dX0_linesSmokedBy_27 : decode cX0_linesSmokedBy 27 = .ok (.iload_n 2, 1) := by decide +kernel
theorem dX0_linesSmokedBy_28 : decode cX0_linesSmokedBy 28 = .ok (.iload 4, 2) := by decide +kernel
theorem dX0_linesSmokedBy_30 : decode cX0_linesSmokedBy 30 = .ok (.invokestatic 104, 3) := by decide +kernel
theorem dX0_linesSmokedBy_33 : decode cX0_linesSmokedBy 33 = .ok (.iand, 1) := by decide +kernel
theorem dX0_linesSmokedBy_34 : decode cX0_linesSmokedBy 34 = .ok (.ifCond .eq 6, 3) := by decide +kernel
theorem dX0_linesSmokedBy_37 : decode cX0_linesSmokedBy 37 = .ok (.iinc 3 1, 3) := by decide +kernel
theorem dX0_linesSmokedBy_40 : decode cX0_linesSmokedBy 40 = .ok (.iinc 4 1, 3) := by decide +kernel
theorem dX0_linesSmokedBy_43 : decode cX0_linesSmokedBy 43 = .ok (.goto (-32), 3) := by decide +kernel
theorem dX0_linesSmokedBy_46 : decode cX0_linesSmokedBy 46 = .ok (.iload_n 3, 1) := by decide +kernel
theorem dX0_linesSmokedBy_47 : decode cX0_linesSmokedBy 47 = .ok (.ireturn, 1) := by decide +kernel
theorem dX0_sumOverLines_0 : decode cX0_sumOverLines 0 = .ok (.iconst 0, 1) := by decide +kernel
theorem dX0_sumOverLines_1 : decode cX0_sumOverLines 1 = .ok (.istore_n 2, 1) := by decide +kernel
theorem dX0_sumOverLines_2 : decode cX0_sumOverLines 2 = .ok (.iconst 0, 1) := by decide +kernel
theorem dX0_sumOverLines_3 : decode cX0_sumOverLines 3 = .ok (.istore_n 3, 1) := by decide +kernel
theorem dX0_sumOverLines_4 : decode cX0_sumOverLines 4 = .ok (.iload_n 3, 1) := by decide +kernel
theorem dX0_sumOverLines_5 : decode cX0_sumOverLines 5 = .ok (.bipush 28, 2) := by decide +kernel
theorem dX0_sumOverLines_7 : decode cX0_sumOverLines 7 = .ok (.if_icmp .ge 29, 3) := by decide +kernel
theorem dX0_sumOverLines_10 : decode cX0_sumOverLines 10 = .ok (.iload_n 3, 1) := by decide +kernel
theorem dX0_sumOverLines_11 : decode cX0_sumOverLines 11 = .ok (.aload_n 1, 1) := by decide +kernel
theorem dX0_sumOverLines_12 : decode cX0_sumOverLines 12 = .ok (.arraylength, 1) := by decide +kernel
theorem dX0_sumOverLines_13 : decode cX0_sumOverLines 13 = .ok (.if_icmp .ge 23, 3) := by decide +kernel
theorem dX0_sumOverLines_16 : decode cX0_sumOverLines 16 = .ok (.aload_n 0, 1) := by decide +kernel
theorem dX0_sumOverLines_17 : decode cX0_sumOverLines 17 = .ok (.iload_n 3, 1) := by decide +kernel
theorem dX0_sumOverLines_18 : decode cX0_sumOverLines 18 = .ok (.invokevirtual 89, 3) := by decide +kernel
theorem dX0_sumOverLines_21 : decode cX0_sumOverLines 21 = .ok (.ifCond .eq 9, 3) := by decide +kernel
theorem dX0_sumOverLines_24 : decode cX0_sumOverLines 24 = .ok (.iload_n 2, 1) := by decide +kernel
theorem dX0_sumOverLines_25 : decode cX0_sumOverLines 25 = .ok (.aload_n 1, 1) := by decide +kernel
theorem dX0_sumOverLines_26 : decode cX0_sumOverLines 26 = .ok (.iload_n 3, 1) := by decide +kernel
theorem dX0_sumOverLines_27 : decode cX0_sumOverLines 27 = .ok (.iaload, 1) := by decide +kernel
theorem dX0_sumOverLines_28 : decode cX0_sumOverLines 28 = .ok (.iadd, 1) := by decide +kernel
theorem dX0_sumOverLines_29 : decode cX0_sumOverLines 29 = .ok (.istore_n 2, 1) := by decide +kernel
theorem dX0_sumOverLines_30 : decode cX0_sumOverLines 30 = .ok (.iinc 3 1, 3) := by decide +kernel
theorem dX0_sumOverLines_33 : decode cX0_sumOverLines 33 = .ok (.goto (-29), 3) := by decide +kernel
theorem dX0_sumOverLines_36 : decode cX0_sumOverLines 36 = .ok (.iload_n 2, 1) := by decide +kernel
theorem dX0_sumOverLines_37 : decode cX0_sumOverLines 37 = .ok (.ireturn, 1) := by decide +kernel
theorem dX0_standingGangways_0 : decode cX0_standingGangways 0 = .ok (.iconst 0, 1) := by decide +kernel
theorem dX0_standingGangways_1 : decode cX0_standingGangways 1 = .ok (.istore_n 1, 1) := by decide +kernel
theorem dX0_standingGangways_2 : decode cX0_standingGangways 2 = .ok (.iconst 0, 1) := by decide +kernel
theorem dX0_standingGangways_3 : decode cX0_standingGangways 3 = .ok (.istore_n 2, 1) := by decide +kernel
theorem dX0_standingGangways_4 : decode cX0_standingGangways 4 = .ok (.iload_n 2, 1) := by decide +kernel
theorem dX0_standingGangways_5 : decode cX0_standingGangways 5 = .ok (.bipush 28, 2) := by decide +kernel
theorem dX0_standingGangways_7 : decode cX0_standingGangways 7 = .ok (.if_icmp .ge 23, 3) := by decide +kernel
theorem dX0_standingGangways_10 : decode cX0_standingGangways 10 = .ok (.aload_n 0, 1) := by decide +kernel
theorem dX0_standingGangways_11 : decode cX0_standingGangways 11 = .ok (.iload_n 2, 1) := by decide +kernel
theorem dX0_standingGangways_12 : decode cX0_standingGangways 12 = .ok (.invokevirtual 116, 3) := by decide +kernel
theorem dX0_standingGangways_15 : decode cX0_standingGangways 15 = .ok (.ifCond .eq 9, 3) := by decide +kernel
theorem dX0_standingGangways_18 : decode cX0_standingGangways 18 = .ok (.iload_n 1, 1) := by decide +kernel
theorem dX0_standingGangways_19 : decode cX0_standingGangways 19 = .ok (.iconst 1, 1) := by decide +kernel
theorem dX0_standingGangways_20 : decode cX0_standingGangways 20 = .ok (.iload_n 2, 1) := by decide +kernel
theorem dX0_standingGangways_21 : decode cX0_standingGangways 21 = .ok (.ishl, 1) := by decide +kernel
theorem dX0_standingGangways_22 : decode cX0_standingGangways 22 = .ok (.ior, 1) := by decide +kernel
theorem dX0_standingGangways_23 : decode cX0_standingGangways 23 = .ok (.istore_n 1, 1) := by decide +kernel
theorem dX0_standingGangways_24 : decode cX0_standingGangways 24 = .ok (.iinc 2 1, 3) := by decide +kernel
theorem dX0_standingGangways_27 : decode cX0_standingGangways 27 = .ok (.goto (-23), 3) := by decide +kernel
theorem dX0_standingGangways_30 : decode cX0_standingGangways 30 = .ok (.iload_n 1, 1) := by decide +kernel
theorem dX0_standingGangways_31 : decode cX0_standingGangways 31 = .ok (.ireturn, 1) := by decide +kernel
theorem dX0_ownersOn_0 : decode cX0_ownersOn 0 = .ok (.iconst 0, 1) := by decide +kernel
theorem dX0_ownersOn_1 : decode cX0_ownersOn 1 = .ok (.istore_n 2, 1) := by decide +kernel
theorem dX0_ownersOn_2 : decode cX0_ownersOn 2 = .ok (.iconst 0, 1) := by decide +kernel
theorem dX0_ownersOn_3 : decode cX0_ownersOn 3 = .ok (.istore_n 3, 1) := by decide +kernel
theorem dX0_ownersOn_4 : decode cX0_ownersOn 4 = .ok (.iload_n 3, 1) := by decide +kernel
theorem dX0_ownersOn_5 : decode cX0_ownersOn 5 = .ok (.iconst 4, 1) := by decide +kernel
theorem dX0_ownersOn_6 : decode cX0_ownersOn 6 = .ok (.if_icmp .ge 25, 3) := by decide +kernel
theorem dX0_ownersOn_9 : decode cX0_ownersOn 9 = .ok (.aload_n 0, 1) := by decide +kernel
theorem dX0_ownersOn_10 : decode cX0_ownersOn 10 = .ok (.getfield 30, 3) := by decide +kernel
theorem dX0_ownersOn_13 : decode cX0_ownersOn 13 = .ok (.iload_n 3, 1) := by decide +kernel
theorem dX0_ownersOn_14 : decode cX0_ownersOn 14 = .ok (.iaload, 1) := by decide +kernel
theorem dX0_ownersOn_15 : decode cX0_ownersOn 15 = .ok (.iload_n 1, 1) := by decide +kernel
theorem dX0_ownersOn_16 : decode cX0_ownersOn 16 = .ok (.if_icmp .ne 9, 3) := by decide +kernel
theorem dX0_ownersOn_19 : decode cX0_ownersOn 19 = .ok (.iload_n 2, 1) := by decide +kernel
theorem dX0_ownersOn_20 : decode cX0_ownersOn 20 = .ok (.iconst 1, 1) := by decide +kernel
theorem dX0_ownersOn_21 : decode cX0_ownersOn 21 = .ok (.iload_n 3, 1) := by decide +kernel
theorem dX0_ownersOn_22 : decode cX0_ownersOn 22 = .ok (.ishl, 1) := by decide +kernel
theorem dX0_ownersOn_23 : decode cX0_ownersOn 23 = .ok (.ior, 1) := by decide +kernel
theorem dX0_ownersOn_24 : decode cX0_ownersOn 24 = .ok (.istore_n 2, 1) := by decide +kernel
theorem dX0_ownersOn_25 : decode cX0_ownersOn 25 = .ok (.iinc 3 1, 3) := by decide +kernel
theorem dX0_ownersOn_28 : decode cX0_ownersOn 28 = .ok (.goto (-24), 3) := by decide +kernel
theorem dX0_ownersOn_31 : decode cX0_ownersOn 31 = .ok (.iload_n 2, 1) := by decide +kernel
theorem dX0_ownersOn_32 : decode cX0_ownersOn 32 = .ok (.ireturn, 1) := by decide +kernel
theorem dX0_walksOpenTo_0 : decode cX0_walksOpenTo 0 = .ok (.iconst 0, 1) := by decide +kernel
theorem dX0_walksOpenTo_1 : decode cX0_walksOpenTo 1 = .ok (.istore_n 2, 1) := by decide +kernel
theorem dX0_walksOpenTo_2 : decode cX0_walksOpenTo 2 = .ok (.iconst 0, 1) := by decide +kernel
theorem dX0_walksOpenTo_3 : decode cX0_walksOpenTo 3 = .ok (.istore_n 3, 1) := by decide +kernel
theorem dX0_walksOpenTo_4 : decode cX0_walksOpenTo 4 = .ok (.iload_n 3, 1) := by decide +kernel
theorem dX0_walksOpenTo_5 : decode cX0_walksOpenTo 5 = .ok (.bipush 28, 2) := by decide +kernel
theorem dX0_walksOpenTo_7 : decode cX0_walksOpenTo 7 = .ok (.if_icmp .ge 44, 3) := by decide +kernel
theorem dX0_walksOpenTo_10 : decode cX0_walksOpenTo 10 = .ok (.iload_n 3, 1) := by decide +kernel
theorem dX0_walksOpenTo_11 : decode cX0_walksOpenTo 11 = .ok (.aload_n 0, 1) := by decide +kernel
theorem dX0_walksOpenTo_12 : decode cX0_walksOpenTo 12 = .ok (.getfield 30, 3) := by decide +kernel
theorem dX0_walksOpenTo_15 : decode cX0_walksOpenTo 15 = .ok (.iload_n 1, 1) := by decide +kernel
theorem dX0_walksOpenTo_16 : decode cX0_walksOpenTo 16 = .ok (.iaload, 1) := by decide +kernel
theorem dX0_walksOpenTo_17 : decode cX0_walksOpenTo 17 = .ok (.invokestatic 135, 3) := by decide +kernel
theorem dX0_walksOpenTo_20 : decode cX0_walksOpenTo 20 = .ok (.istore 4, 2) := by decide +kernel
theorem dX0_walksOpenTo_22 : decode cX0_walksOpenTo 22 = .ok (.aload_n 0, 1) := by decide +kernel
theorem dX0_walksOpenTo_23 : decode cX0_walksOpenTo 23 = .ok (.iload_n 1, 1) := by decide +kernel
theorem dX0_walksOpenTo_24 : decode cX0_walksOpenTo 24 = .ok (.iload_n 3, 1) := by decide +kernel
theorem dX0_walksOpenTo_25 : decode cX0_walksOpenTo 25 = .ok (.invokevirtual 145, 3) := by decide +kernel
theorem dX0_walksOpenTo_28 : decode cX0_walksOpenTo 28 = .ok (.ifCond .eq 17, 3) := by decide +kernel
theorem dX0_walksOpenTo_31 : decode cX0_walksOpenTo 31 = .ok (.aload_n 0, 1) := by decide +kernel
theorem dX0_walksOpenTo_32 : decode cX0_walksOpenTo 32 = .ok (.iload_n 1, 1) := by decide +kernel
theorem dX0_walksOpenTo_33 : decode cX0_walksOpenTo 33 = .ok (.iload_n 3, 1) := by decide +kernel
theorem dX0_walksOpenTo_34 : decode cX0_walksOpenTo 34 = .ok (.iload 4, 2) := by decide +kernel
theorem dX0_walksOpenTo_36 : decode cX0_walksOpenTo 36 = .ok (.invokevirtual 138, 3) := by decide +kernel
theorem dX0_walksOpenTo_39 : decode cX0_walksOpenTo 39 = .ok (.ifCond .ne 6, 3) := by decide +kernel
theorem dX0_walksOpenTo_42 : decode cX0_walksOpenTo 42 = .ok (.iinc 2 1, 3) := by decide +kernel
theorem dX0_walksOpenTo_45 : decode cX0_walksOpenTo 45 = .ok (.iinc 3 1, 3) := by decide +kernel
theorem dX0_walksOpenTo_48 : decode cX0_walksOpenTo 48 = .ok (.goto (-44), 3) := by decide +kernel
theorem dX0_walksOpenTo_51 : decode cX0_walksOpenTo 51 = .ok (.iload_n 2, 1) := by decide +kernel
theorem dX0_walksOpenTo_52 : decode cX0_walksOpenTo 52 = .ok (.ireturn, 1) := by decide +kernel
theorem dX0_hangingsOpenTo_0 : decode cX0_hangingsOpenTo 0 = .ok (.iconst 0, 1) := by decide +kernel
theorem dX0_hangingsOpenTo_1 : decode cX0_hangingsOpenTo 1 = .ok (.istore_n 2, 1) := by decide +kernel
theorem dX0_hangingsOpenTo_2 : decode cX0_hangingsOpenTo 2 = .ok (.iconst 0, 1) := by decide +kernel
theorem dX0_hangingsOpenTo_3 : decode cX0_hangingsOpenTo 3 = .ok (.istore_n 3, 1) := by decide +kernel
theorem dX0_hangingsOpenTo_4 : decode cX0_hangingsOpenTo 4 = .ok (.iload_n 3, 1) := by decide +kernel
theorem dX0_hangingsOpenTo_5 : decode cX0_hangingsOpenTo 5 = .ok (.bipush 28, 2) := by decide +kernel
theorem dX0_hangingsOpenTo_7 : decode cX0_hangingsOpenTo 7 = .ok (.if_icmp .ge 21, 3) := by decide +kernel
theorem dX0_hangingsOpenTo_10 : decode cX0_hangingsOpenTo 10 = .ok (.aload_n 0, 1) := by decide +kernel
theorem dX0_hangingsOpenTo_11 : decode cX0_hangingsOpenTo 11 = .ok (.iload_n 1, 1) := by decide +kernel
theorem dX0_hangingsOpenTo_12 : decode cX0_hangingsOpenTo 12 = .ok (.iload_n 3, 1) := by decide +kernel
theorem dX0_hangingsOpenTo_13 : decode cX0_hangingsOpenTo 13 = .ok (.invokevirtual 122, 3) := by decide +kernel
theorem dX0_hangingsOpenTo_16 : decode cX0_hangingsOpenTo 16 = .ok (.ifCond .ne 6, 3) := by decide +kernel
theorem dX0_hangingsOpenTo_19 : decode cX0_hangingsOpenTo 19 = .ok (.iinc 2 1, 3) := by decide +kernel
theorem dX0_hangingsOpenTo_22 : decode cX0_hangingsOpenTo 22 = .ok (.iinc 3 1, 3) := by decide +kernel
theorem dX0_hangingsOpenTo_25 : decode cX0_hangingsOpenTo 25 = .ok (.goto (-21), 3) := by decide +kernel
theorem dX0_hangingsOpenTo_28 : decode cX0_hangingsOpenTo 28 = .ok (.iload_n 2, 1) := by decide +kernel
theorem dX0_hangingsOpenTo_29 : decode cX0_hangingsOpenTo 29 = .ok (.ireturn, 1) := by decide +kernel
theorem dX0_numberOfNow_0 : decode cX0_numberOfNow 0 = .ok (.iload_n 1, 1) := by decide +kernel
theorem dX0_numberOfNow_1 : decode cX0_numberOfNow 1 = .ok (.tableswitch 123 0 8 #[51, 56, 61, 69, 81, 89, 97, 105, 114], 51) := by decide +kernel
theorem dX0_numberOfNow_52 : decode cX0_numberOfNow 52 = .ok (.aload_n 0, 1) := by decide +kernel
theorem dX0_numberOfNow_53 : decode cX0_numberOfNow 53 = .ok (.getfield 74, 3) := by decide +kernel
theorem dX0_numberOfNow_56 : decode cX0_numberOfNow 56 = .ok (.ireturn, 1) := by decide +kernel
theorem dX0_numberOfNow_57 : decode cX0_numberOfNow 57 = .ok (.aload_n 0, 1) := by decide +kernel
theorem dX0_numberOfNow_58 : decode cX0_numberOfNow 58 = .ok (.getfield 36, 3) := by decide +kernel
theorem dX0_numberOfNow_61 : decode cX0_numberOfNow 61 = .ok (.ireturn, 1) := by decide +kernel
theorem dX0_numberOfNow_62 : decode cX0_numberOfNow 62 = .ok (.aload_n 0, 1) := by decide +kernel
theorem dX0_numberOfNow_63 : decode cX0_numberOfNow 63 = .ok (.getfield 68, 3) := by decide +kernel
theorem dX0_numberOfNow_66 : decode cX0_numberOfNow 66 = .ok (.invokestatic 130, 3) := by decide +kernel
theorem dX0_numberOfNow_69 : decode cX0_numberOfNow 69 = .ok (.ireturn, 1) := by decide +kernel
theorem dX0_numberOfNow_70 : decode cX0_numberOfNow 70 = .ok (.aload_n 0, 1) := by decide +kernel
theorem dX0_numberOfNow_71 : decode cX0_numberOfNow 71 = .ok (.aload_n 0, 1) := by decide +kernel
theorem dX0_numberOfNow_72 : decode cX0_numberOfNow 72 = .ok (.getfield 36, 3) := by decide +kernel
theorem dX0_numberOfNow_75 : decode cX0_numberOfNow 75 = .ok (.invokevirtual 100, 3) := by decide +kernel
theorem dX0_numberOfNow_78 : decode cX0_numberOfNow 78 = .ok (.invokestatic 130, 3) := by decide +kernel
theorem dX0_numberOfNow_81 : decode cX0_numberOfNow 81 = .ok (.ireturn, 1) := by decide +kernel
theorem dX0_numberOfNow_82 : decode cX0_numberOfNow 82 = .ok (.aload_n 0, 1) := by decide +kernel
theorem dX0_numberOfNow_83 : decode cX0_numberOfNow 83 = .ok (.getfield 71, 3) := by decide +kernel
theorem dX0_numberOfNow_86 : decode cX0_numberOfNow 86 = .ok (.invokestatic 130, 3) := by decide +kernel
theorem dX0_numberOfNow_89 : decode cX0_numberOfNow 89 = .ok (.ireturn, 1) := by decide +kernel
theorem dX0_numberOfNow_90 : decode cX0_numberOfNow 90 = .ok (.aload_n 0, 1) := by decide +kernel
theorem dX0_numberOfNow_91 : decode cX0_numberOfNow 91 = .ok (.invokevirtual 126, 3) := by decide +kernel
theorem dX0_numberOfNow_94 : decode cX0_numberOfNow 94 = .ok (.invokestatic 130, 3) := by decide +kernel
theorem dX0_numberOfNow_97 : decode cX0_numberOfNow 97 = .ok (.ireturn, 1) := by decide +kernel
theorem dX0_numberOfNow_98 : decode cX0_numberOfNow 98 = .ok (.aload_n 0, 1) := by decide +kernel
theorem dX0_numberOfNow_99 : decode cX0_numberOfNow 99 = .ok (.invokevirtual 148, 3) := by decide +kernel
theorem dX0_numberOfNow_102 : decode cX0_numberOfNow 102 = .ok (.invokestatic 130, 3) := by decide +kernel
theorem dX0_numberOfNow_105 : decode cX0_numberOfNow 105 = .ok (.ireturn, 1) := by decide +kernel
theorem dX0_numberOfNow_106 : decode cX0_numberOfNow 106 = .ok (.aload_n 0, 1) := by decide +kernel
theorem dX0_numberOfNow_107 : decode cX0_numberOfNow 107 = .ok (.aload_n 0, 1) := by decide +kernel
theorem dX0_numberOfNow_108 : decode cX0_numberOfNow 108 = .ok (.getfield 18, 3) := by decide +kernel
theorem dX0_numberOfNow_111 : decode cX0_numberOfNow 111 = .ok (.invokevirtual 151, 3) := by decide +kernel
theorem dX0_numberOfNow_114 : decode cX0_numberOfNow 114 = .ok (.ireturn, 1) := by decide +kernel
theorem dX0_numberOfNow_115 : decode cX0_numberOfNow 115 = .ok (.aload_n 0, 1) := by decide +kernel
theorem dX0_numberOfNow_116 : decode cX0_numberOfNow 116 = .ok (.aload_n 0, 1) := by decide +kernel
theorem dX0_numberOfNow_117 : decode cX0_numberOfNow 117 = .ok (.getfield 21, 3) := by decide +kernel
theorem dX0_numberOfNow_120 : decode cX0_numberOfNow 120 = .ok (.invokevirtual 151, 3) := by decide +kernel
theorem dX0_numberOfNow_123 : decode cX0_numberOfNow 123 = .ok (.ireturn, 1) := by decide +kernel
theorem dX0_numberOfNow_124 : decode cX0_numberOfNow 124 = .ok (.aload_n 0, 1) := by decide +kernel
theorem dX0_numberOfNow_125 : decode cX0_numberOfNow 125 = .ok (.aload_n 0, 1) := by decide +kernel
theorem dX0_numberOfNow_126 : decode cX0_numberOfNow 126 = .ok (.getfield 36, 3) := by decide +kernel
theorem dX0_numberOfNow_129 : decode cX0_numberOfNow 129 = .ok (.invokevirtual 155, 3) := by decide +kernel
theorem dX0_numberOfNow_132 : decode cX0_numberOfNow 132 = .ok (.ireturn, 1) := by decide +kernel
theorem dX0_numberSoFar_0 : decode cX0_numberSoFar 0 = .ok (.iload_n 1, 1) := by decide +kernel
theorem dX0_numberSoFar_1 : decode cX0_numberSoFar 1 = .ok (.tableswitch 60 10 14 #[35, 40, 45, 50, 55], 35) := by decide +kernel
theorem dX0_numberSoFar_36 : decode cX0_numberSoFar 36 = .ok (.aload_n 0, 1) := by decide +kernel
theorem dX0_numberSoFar_37 : decode cX0_numberSoFar 37 = .ok (.getfield 77, 3) := by decide +kernel
theorem dX0_numberSoFar_40 : decode cX0_numberSoFar 40 = .ok (.ireturn, 1) := by decide +kernel
theorem dX0_numberSoFar_41 : decode cX0_numberSoFar 41 = .ok (.aload_n 0, 1) := by decide +kernel
theorem dX0_numberSoFar_42 : decode cX0_numberSoFar 42 = .ok (.getfield 80, 3) := by decide +kernel
theorem dX0_numberSoFar_45 : decode cX0_numberSoFar 45 = .ok (.ireturn, 1) := by decide +kernel
theorem dX0_numberSoFar_46 : decode cX0_numberSoFar 46 = .ok (.aload_n 0, 1) := by decide +kernel
theorem dX0_numberSoFar_47 : decode cX0_numberSoFar 47 = .ok (.getfield 83, 3) := by decide +kernel
theorem dX0_numberSoFar_50 : decode cX0_numberSoFar 50 = .ok (.ireturn, 1) := by decide +kernel
theorem dX0_numberSoFar_51 : decode cX0_numberSoFar 51 = .ok (.aload_n 0, 1) := by decide +kernel
theorem dX0_numberSoFar_52 : decode cX0_numberSoFar 52 = .ok (.getfield 86, 3) := by decide +kernel
theorem dX0_numberSoFar_55 : decode cX0_numberSoFar 55 = .ok (.ireturn, 1) := by decide +kernel
theorem dX0_numberSoFar_56 : decode cX0_numberSoFar 56 = .ok (.aload_n 0, 1) := by decide +kernel
theorem dX0_numberSoFar_57 : decode cX0_numberSoFar 57 = .ok (.getfield 40, 3) := by decide +kernel
theorem dX0_numberSoFar_60 : decode cX0_numberSoFar 60 = .ok (.ireturn, 1) := by decide +kernel
theorem dX0_numberSoFar_61 : decode cX0_numberSoFar 61 = .ok (.aload_n 0, 1) := by decide +kernel
theorem dX0_numberSoFar_62 : decode cX0_numberSoFar 62 = .ok (.getfield 43, 3) := by decide +kernel
theorem dX0_numberSoFar_65 : decode cX0_numberSoFar 65 = .ok (.ireturn, 1) := by decide +kernel
theorem dX1_init_0 : decode cX1_init 0 = .ok (.aload_n 0, 1) := by decide +kernel
theorem dX1_init_1 : decode cX1_init 1 = .ok (.invokespecial 3, 3) := by decide +kernel
theorem dX1_init_4 : decode cX1_init 4 = .ok (.aload_n 0, 1) := by decide +kernel
theorem dX1_init_5 : decode cX1_init 5 = .ok (.iconst 4, 1) := by decide +kernel
theorem dX1_init_6 : decode cX1_init 6 = .ok (.anewarray 9, 3) := by decide +kernel
theorem dX1_init_9 : decode cX1_init 9 = .ok (.putfield 11, 3) := by decide +kernel
theorem dX1_init_12 : decode cX1_init 12 = .ok (.iconst 0, 1) := by decide +kernel
theorem dX1_init_13 : decode cX1_init 13 = .ok (.istore_n 1, 1) := by decide +kernel
theorem dX1_init_14 : decode cX1_init 14 = .ok (.iload_n 1, 1) := by decide +kernel
theorem dX1_init_15 : decode cX1_init 15 = .ok (.iconst 4, 1) := by decide +kernel
theorem dX1_init_16 : decode cX1_init 16 = .ok (.if_icmp .ge 22, 3) := by decide +kernel
theorem dX1_init_19 : decode cX1_init 19 = .ok (.aload_n 0, 1) := by decide +kernel
theorem dX1_init_20 : decode cX1_init 20 = .ok (.getfield 11, 3) := by decide +kernel
theorem dX1_init_23 : decode cX1_init 23 = .ok (.iload_n 1, 1) := by decide +kernel
theorem dX1_init_24 : decode cX1_init 24 = .ok (.new 9, 3) := by decide +kernel
theorem dX1_init_27 : decode cX1_init 27 = .ok (.dup, 1) := by decide +kernel
theorem dX1_init_28 : decode cX1_init 28 = .ok (.invokespecial 17, 3) := by decide +kernel
theorem dX1_init_31 : decode cX1_init 31 = .ok (.aastore, 1) := by decide +kernel
theorem dX1_init_32 : decode cX1_init 32 = .ok (.iinc 1 1, 3) := by decide +kernel
theorem dX1_init_35 : decode cX1_init 35 = .ok (.goto (-21), 3) := by decide +kernel
theorem dX1_init_38 : decode cX1_init 38 = .ok (.return_, 1) := by decide +kernel
theorem dX1_push_0 : decode cX1_push 0 = .ok (.aload_n 0, 1) := by decide +kernel
theorem dX1_push_1 : decode cX1_push 1 = .ok (.getfield 11, 3) := by decide +kernel
theorem dX1_push_4 : decode cX1_push 4 = .ok (.iconst 3, 1) := by decide +kernel
theorem dX1_push_5 : decode cX1_push 5 = .ok (.aaload, 1) := by decide +kernel
theorem dX1_push_6 : decode cX1_push 6 = .ok (.astore_n 2, 1) := by decide +kernel
theorem dX1_push_7 : decode cX1_push 7 = .ok (.iconst 3, 1) := by decide +kernel
theorem dX1_push_8 : decode cX1_push 8 = .ok (.istore_n 3, 1) := by decide +kernel
theorem dX1_push_9 : decode cX1_push 9 = .ok (.iload_n 3, 1) := by decide +kernel
theorem dX1_push_10 : decode cX1_push 10 = .ok (.ifCond .le 23, 3) := by decide +kernel
theorem dX1_push_13 : decode cX1_push 13 = .ok (.aload_n 0, 1) := by decide +kernel
theorem dX1_push_14 : decode cX1_push 14 = .ok (.getfield 11, 3) := by decide +kernel
theorem dX1_push_17 : decode cX1_push 17 = .ok (.iload_n 3, 1) := by decide +kernel
theorem dX1_push_18 : decode cX1_push 18 = .ok (.aload_n 0, 1) := by decide +kernel
theorem dX1_push_19 : decode cX1_push 19 = .ok (.getfield 11, 3) := by decide +kernel
theorem dX1_push_22 : decode cX1_push 22 = .ok (.iload_n 3, 1) := by decide +kernel
theorem dX1_push_23 : decode cX1_push 23 = .ok (.iconst 1, 1) := by decide +kernel
theorem dX1_push_24 : decode cX1_push 24 = .ok (.isub, 1) := by decide +kernel
theorem dX1_push_25 : decode cX1_push 25 = .ok (.aaload, 1) := by decide +kernel
theorem dX1_push_26 : decode cX1_push 26 = .ok (.aastore, 1) := by decide +kernel
theorem dX1_push_27 : decode cX1_push 27 = .ok (.iinc 3 (-1), 3) := by decide +kernel
theorem dX1_push_30 : decode cX1_push 30 = .ok (.goto (-21), 3) := by decide +kernel
theorem dX1_push_33 : decode cX1_push 33 = .ok (.aload_n 0, 1) := by decide +kernel
theorem dX1_push_34 : decode cX1_push 34 = .ok (.getfield 11, 3) := by decide +kernel
theorem dX1_push_37 : decode cX1_push 37 = .ok (.iconst 0, 1) := by decide +kernel
theorem dX1_push_38 : decode cX1_push 38 = .ok (.aload_n 2, 1) := by decide +kernel
theorem dX1_push_39 : decode cX1_push 39 = .ok (.aastore, 1) := by decide +kernel
theorem dX1_push_40 : decode cX1_push 40 = .ok (.aload_n 2, 1) := by decide +kernel
theorem dX1_push_41 : decode cX1_push 41 = .ok (.ifnull 8, 3) := by decide +kernel
theorem dX1_push_44 : decode cX1_push 44 = .ok (.aload_n 2, 1) := by decide +kernel
theorem dX1_push_45 : decode cX1_push 45 = .ok (.aload_n 1, 1) := by decide +kernel
theorem dX1_push_46 : decode cX1_push 46 = .ok (.invokevirtual 18, 3) := by decide +kernel
theorem dX1_push_49 : decode cX1_push 49 = .ok (.aload_n 0, 1) := by decide +kernel
theorem dX1_push_50 : decode cX1_push 50 = .ok (.aload_n 0, 1) := by decide +kernel
theorem dX1_push_51 : decode cX1_push 51 = .ok (.getfield 22, 3) := by decide +kernel
theorem dX1_push_54 : decode cX1_push 54 = .ok (.iconst 1, 1) := by decide +kernel
theorem dX1_push_55 : decode cX1_push 55 = .ok (.iadd, 1) := by decide +kernel
theorem dX1_push_56 : decode cX1_push 56 = .ok (.iconst 4, 1) := by decide +kernel
theorem dX1_push_57 : decode cX1_push 57 = .ok (.invokestatic 26, 3) := by decide +kernel
theorem dX1_push_60 : decode cX1_push 60 = .ok (.putfield 22, 3) := by decide +kernel
theorem dX1_push_63 : decode cX1_push 63 = .ok (.return_, 1) := by decide +kernel
theorem dX1_popInto_0 : decode cX1_popInto 0 = .ok (.aload_n 0, 1) := by decide +kernel
theorem dX1_popInto_1 : decode cX1_popInto 1 = .ok (.getfield 11, 3) := by decide +kernel
theorem dX1_popInto_4 : decode cX1_popInto 4 = .ok (.iconst 0, 1) := by decide +kernel
theorem dX1_popInto_5 : decode cX1_popInto 5 = .ok (.aaload, 1) := by decide +kernel
theorem dX1_popInto_6 : decode cX1_popInto 6 = .ok (.astore_n 2, 1) := by decide +kernel
theorem dX1_popInto_7 : decode cX1_popInto 7 = .ok (.iconst 1, 1) := by decide +kernel
theorem dX1_popInto_8 : decode cX1_popInto 8 = .ok (.istore_n 3, 1) := by decide +kernel
theorem dX1_popInto_9 : decode cX1_popInto 9 = .ok (.iload_n 3, 1) := by decide +kernel
theorem dX1_popInto_10 : decode cX1_popInto 10 = .ok (.iconst 4, 1) := by decide +kernel
theorem dX1_popInto_11 : decode cX1_popInto 11 = .ok (.if_icmp .ge 23, 3) := by decide +kernel
theorem dX1_popInto_14 : decode cX1_popInto 14 = .ok (.aload_n 0, 1) := by decide +kernel
theorem dX1_popInto_15 : decode cX1_popInto 15 = .ok (.getfield 11, 3) := by decide +kernel
theorem dX1_popInto_18 : decode cX1_popInto 18 = .ok (.iload_n 3, 1) := by decide +kernel
theorem dX1_popInto_19 : decode cX1_popInto 19 = .ok (.iconst 1, 1) := by decide +kernel
theorem dX1_popInto_20 : decode cX1_popInto 20 = .ok (.isub, 1) := by decide +kernel
theorem dX1_popInto_21 : decode cX1_popInto 21 = .ok (.aload_n 0, 1) := by decide +kernel
theorem dX1_popInto_22 : decode cX1_popInto 22 = .ok (.getfield 11, 3) := by decide +kernel
theorem dX1_popInto_25 : decode cX1_popInto 25 = .ok (.iload_n 3, 1) := by decide +kernel
theorem dX1_popInto_26 : decode cX1_popInto 26 = .ok (.aaload, 1) := by decide +kernel
theorem dX1_popInto_27 : decode cX1_popInto 27 = .ok (.aastore, 1) := by decide +kernel
theorem dX1_popInto_28 : decode cX1_popInto 28 = .ok (.iinc 3 1, 3) := by decide +kernel
theorem dX1_popInto_31 : decode cX1_popInto 31 = .ok (.goto (-22), 3) := by decide +kernel
theorem dX1_popInto_34 : decode cX1_popInto 34 = .ok (.aload_n 0, 1) := by decide +kernel
theorem dX1_popInto_35 : decode cX1_popInto 35 = .ok (.getfield 11, 3) := by decide +kernel
theorem dX1_popInto_38 : decode cX1_popInto 38 = .ok (.iconst 3, 1) := by decide +kernel
theorem dX1_popInto_39 : decode cX1_popInto 39 = .ok (.aload_n 2, 1) := by decide +kernel
theorem dX1_popInto_40 : decode cX1_popInto 40 = .ok (.aastore, 1) := by decide +kernel
theorem dX1_popInto_41 : decode cX1_popInto 41 = .ok (.aload_n 2, 1) := by decide +kernel
theorem dX1_popInto_42 : decode cX1_popInto 42 = .ok (.ifnull 8, 3) := by decide +kernel
theorem dX1_popInto_45 : decode cX1_popInto 45 = .ok (.aload_n 1, 1) := by decide +kernel
theorem dX1_popInto_46 : decode cX1_popInto 46 = .ok (.aload_n 2, 1) := by decide +kernel
theorem dX1_popInto_47 : decode cX1_popInto 47 = .ok (.invokevirtual 18, 3) := by decide +kernel
theorem dX1_popInto_50 : decode cX1_popInto 50 = .ok (.aload_n 0, 1) := by decide +kernel
theorem dX1_popInto_51 : decode cX1_popInto 51 = .ok (.aload_n 0, 1) := by decide +kernel
theorem dX1_popInto_52 : decode cX1_popInto 52 = .ok (.getfield 22, 3) := by decide +kernel
theorem dX1_popInto_55 : decode cX1_popInto 55 = .ok (.iconst 1, 1) := by decide +kernel
theorem dX1_popInto_56 : decode cX1_popInto 56 = .ok (.isub, 1) := by decide +kernel
theorem dX1_popInto_57 : decode cX1_popInto 57 = .ok (.iconst 0, 1) := by decide +kernel
theorem dX1_popInto_58 : decode cX1_popInto 58 = .ok (.invokestatic 32, 3) := by decide +kernel
theorem dX1_popInto_61 : decode cX1_popInto 61 = .ok (.putfield 22, 3) := by decide +kernel
theorem dX1_popInto_64 : decode cX1_popInto 64 = .ok (.return_, 1) := by decide +kernel
theorem dX2_init_0 : decode cX2_init 0 = .ok (.aload_n 0, 1) := by decide +kernel
theorem dX2_init_1 : decode cX2_init 1 = .ok (.invokespecial 3, 3) := by decide +kernel
theorem dX2_init_4 : decode cX2_init 4 = .ok (.aload_n 0, 1) := by decide +kernel
theorem dX2_init_5 : decode cX2_init 5 = .ok (.aload_n 1, 1) := by decide +kernel
theorem dX2_init_6 : decode cX2_init 6 = .ok (.putfield 9, 3) := by decide +kernel
theorem dX2_init_9 : decode cX2_init 9 = .ok (.return_, 1) := by decide +kernel
theorem dX2_rewind_0 : decode cX2_rewind 0 = .ok (.aload_n 0, 1) := by decide +kernel
theorem dX2_rewind_1 : decode cX2_rewind 1 = .ok (.iconst 0, 1) := by decide +kernel
theorem dX2_rewind_2 : decode cX2_rewind 2 = .ok (.putfield 15, 3) := by decide +kernel
theorem dX2_rewind_5 : decode cX2_rewind 5 = .ok (.return_, 1) := by decide +kernel
theorem dX2_firstFault_0 : decode cX2_firstFault 0 = .ok (.aload_n 0, 1) := by decide +kernel
theorem dX2_firstFault_1 : decode cX2_firstFault 1 = .ok (.invokevirtual 19, 3) := by decide +kernel
theorem dX2_firstFault_4 : decode cX2_firstFault 4 = .ok (.iconst 0, 1) := by decide +kernel
theorem dX2_firstFault_5 : decode cX2_firstFault 5 = .ok (.istore_n 1, 1) := by decide +kernel
theorem dX2_firstFault_6 : decode cX2_firstFault 6 = .ok (.iload_n 1, 1) := by decide +kernel
theorem dX2_firstFault_7 : decode cX2_firstFault 7 = .ok (.bipush 60, 2) := by decide +kernel
theorem dX2_firstFault_9 : decode cX2_firstFault 9 = .ok (.if_icmp .gt 52, 3) := by decide +kernel
theorem dX2_firstFault_12 : decode cX2_firstFault 12 = .ok (.aload_n 0, 1) := by decide +kernel
theorem dX2_firstFault_13 : decode cX2_firstFault 13 = .ok (.invokevirtual 22, 3) := by decide +kernel
theorem dX2_firstFault_16 : decode cX2_firstFault 16 = .ok (.ifCond .ne 8, 3) := by decide +kernel
theorem dX2_firstFault_19 : decode cX2_firstFault 19 = .ok (.aload_n 0, 1) := by decide +kernel
theorem dX2_firstFault_20 : decode cX2_firstFault 20 = .ok (.getfield 15, 3) := by decide +kernel
theorem dX2_firstFault_23 : decode cX2_firstFault 23 = .ok (.ireturn, 1) := by decide +kernel
theorem dX2_firstFault_24 : decode cX2_firstFault 24 = .ok (.aload_n 0, 1) := by decide +kernel
theorem dX2_firstFault_25 : decode cX2_firstFault 25 = .ok (.getfield 15, 3) := by decide +kernel
theorem dX2_firstFault_28 : decode cX2_firstFault 28 = .ok (.aload_n 0, 1) := by decide +kernel
theorem dX2_firstFault_29 : decode cX2_firstFault 29 = .ok (.getfield 9, 3) := by decide +kernel
theorem dX2_firstFault_32 : decode cX2_firstFault 32 = .ok (.getfield 26, 3) := by decide +kernel
theorem dX2_firstFault_35 : decode cX2_firstFault 35 = .ok (.if_icmp .ne 6, 3) := by decide +kernel
theorem dX2_firstFault_38 : decode cX2_firstFault 38 = .ok (.bipush (-4), 2) := by decide +kernel
theorem dX2_firstFault_40 : decode cX2_firstFault 40 = .ok (.ireturn, 1) := by decide +kernel
theorem dX2_firstFault_41 : decode cX2_firstFault 41 = .ok (.aload_n 0, 1) := by decide +kernel
theorem dX2_firstFault_42 : decode cX2_firstFault 42 = .ok (.bipush 44, 2) := by decide +kernel
theorem dX2_firstFault_44 : decode cX2_firstFault 44 = .ok (.invokevirtual 31, 3) := by decide +kernel
theorem dX2_firstFault_47 : decode cX2_firstFault 47 = .ok (.ifCond .ne 8, 3) := by decide +kernel
theorem dX2_firstFault_50 : decode cX2_firstFault 50 = .ok (.aload_n 0, 1) := by decide +kernel
theorem dX2_firstFault_51 : decode cX2_firstFault 51 = .ok (.getfield 15, 3) := by decide +kernel
theorem dX2_firstFault_54 : decode cX2_firstFault 54 = .ok (.ireturn, 1) := by decide +kernel
theorem dX2_firstFault_55 : decode cX2_firstFault 55 = .ok (.iinc 1 1, 3) := by decide +kernel
theorem dX2_firstFault_58 : decode cX2_firstFault 58 = .ok (.goto (-52), 3) := by decide +kernel
theorem dX2_firstFault_61 : decode cX2_firstFault 61 = .ok (.aload_n 0, 1) := by decide +kernel
theorem dX2_firstFault_62 : decode cX2_firstFault 62 = .ok (.getfield 15, 3) := by decide +kernel
theorem dX2_firstFault_65 : decode cX2_firstFault 65 = .ok (.ireturn, 1) := by decide +kernel
theorem dX2_readNext_0 : decode cX2_readNext 0 = .ok (.aload_n 0, 1) := by decide +kernel
theorem dX2_readNext_1 : decode cX2_readNext 1 = .ok (.getfield 15, 3) := by decide +kernel
theorem dX2_readNext_4 : decode cX2_readNext 4 = .ok (.aload_n 0, 1) := by decide +kernel
theorem dX2_readNext_5 : decode cX2_readNext 5 = .ok (.getfield 9, 3) := by decide +kernel
theorem dX2_readNext_8 : decode cX2_readNext 8 = .ok (.getfield 26, 3) := by decide +kernel
theorem dX2_readNext_11 : decode cX2_readNext 11 = .ok (.if_icmp .lt 5, 3) := by decide +kernel
theorem dX2_readNext_14 : decode cX2_readNext 14 = .ok (.iconst 0, 1) := by decide +kernel
theorem dX2_readNext_15 : decode cX2_readNext 15 = .ok (.ireturn, 1) := by decide +kernel
theorem dX2_readNext_16 : decode cX2_readNext 16 = .ok (.aload_n 0, 1) := by decide +kernel
theorem dX2_readNext_17 : decode cX2_readNext 17 = .ok (.invokevirtual 22, 3) := by decide +kernel
theorem dX2_readNext_20 : decode cX2_readNext 20 = .ok (.istore_n 1, 1) := by decide +kernel
theorem dX2_readNext_21 : decode cX2_readNext 21 = .ok (.aload_n 0, 1) := by decide +kernel
theorem dX2_readNext_22 : decode cX2_readNext 22 = .ok (.bipush 44, 2) := by decide +kernel
theorem dX2_readNext_24 : decode cX2_readNext 24 = .ok (.invokevirtual 31, 3) := by decide +kernel
theorem dX2_readNext_27 : decode cX2_readNext 27 = .ok (.pop, 1) := by decide +kernel
theorem dX2_readNext_28 : decode cX2_readNext 28 = .ok (.iload_n 1, 1) := by decide +kernel
theorem dX2_readNext_29 : decode cX2_readNext 29 = .ok (.ireturn, 1) := by decide +kernel
theorem dX2_readOrder_0 : decode cX2_readOrder 0 = .ok (.aload_n 0, 1) := by decide +kernel
theorem dX2_readOrder_1 : decode cX2_readOrder 1 = .ok (.aload_n 0, 1) := by decide +kernel
theorem dX2_readOrder_2 : decode cX2_readOrder 2 = .ok (.getfield 15, 3) := by decide +kernel
theorem dX2_readOrder_5 : decode cX2_readOrder 5 = .ok (.putfield 35, 3) := by decide +kernel
theorem dX2_readOrder_8 : decode cX2_readOrder 8 = .ok (.aload_n 0, 1) := by decide +kernel
theorem dX2_readOrder_9 : decode cX2_readOrder 9 = .ok (.aload_n 0, 1) := by decide +kernel
theorem dX2_readOrder_10 : decode cX2_readOrder 10 = .ok (.getfield 9, 3) := by decide +kernel
theorem dX2_readOrder_13 : decode cX2_readOrder 13 = .ok (.aload_n 0, 1) := by decide +kernel
theorem dX2_readOrder_14 : decode cX2_readOrder 14 = .ok (.getfield 15, 3) := by decide +kernel
theorem dX2_readOrder_17 : decode cX2_readOrder 17 = .ok (.invokevirtual 38, 3) := by decide +kernel
theorem dX2_readOrder_20 : decode cX2_readOrder 20 = .ok (.putfield 42, 3) := by decide +kernel
theorem dX2_readOrder_23 : decode cX2_readOrder 23 = .ok (.aload_n 0, 1) := by decide +kernel
theorem dX2_readOrder_24 : decode cX2_readOrder 24 = .ok (.getfield 42, 3) := by decide +kernel
theorem dX2_readOrder_27 : decode cX2_readOrder 27 = .ok (.lookupswitch 117 #[(99, 89), (100, 105), (104, 49), (116, 49), (119, 49)], 49) := by decide +kernel
theorem dX2_readOrder_76 : decode cX2_readOrder 76 = .ok (.aload_n 0, 1) := by decide +kernel
theorem dX2_readOrder_77 : decode cX2_readOrder 77 = .ok (.dup, 1) := by decide +kernel
theorem dX2_readOrder_78 : decode cX2_readOrder 78 = .ok (.getfield 15, 3) := by decide +kernel
theorem dX2_readOrder_81 : decode cX2_readOrder 81 = .ok (.iconst 1, 1) := by decide +kernel
theorem dX2_readOrder_82 : decode cX2_readOrder 82 = .ok (.iadd, 1) := by decide +kernel
theorem dX2_readOrder_83 : decode cX2_readOrder 83 = .ok (.putfield 15, 3) := by decide +kernel
theorem dX2_readOrder_86 : decode cX2_readOrder 86 = .ok (.aload_n 0, 1) := by decide +kernel
theorem dX2_readOrder_87 : decode cX2_readOrder 87 = .ok (.invokevirtual 46, 3) := by decide +kernel
theorem dX2_readOrder_90 : decode cX2_readOrder 90 = .ok (.ifCond .eq 24, 3) := by decide +kernel
theorem dX2_readOrder_93 : decode cX2_readOrder 93 = .ok (.aload_n 0, 1) := by decide +kernel
theorem dX2_readOrder_94 : decode cX2_readOrder 94 = .ok (.bipush 58, 2) := by decide +kernel
theorem dX2_readOrder_96 : decode cX2_readOrder 96 = .ok (.invokevirtual 31, 3) := by decide +kernel
theorem dX2_readOrder_99 : decode cX2_readOrder 99 = .ok (.ifCond .eq 15, 3) := by decide +kernel
theorem dX2_readOrder_102 : decode cX2_readOrder 102 = .ok (.aload_n 0, 1) := by decide +kernel
theorem dX2_readOrder_103 : decode cX2_readOrder 103 = .ok (.iconst 1, 1) := by decide +kernel
theorem dX2_readOrder_104 : decode cX2_readOrder 104 = .ok (.invokevirtual 49, 3) := by decide +kernel
theorem dX2_readOrder_107 : decode cX2_readOrder 107 = .ok (.ifCond .eq 7, 3) := by decide +kernel
theorem dX2_readOrder_110 : decode cX2_readOrder 110 = .ok (.iconst 1, 1) := by decide +kernel
theorem dX2_readOrder_111 : decode cX2_readOrder 111 = .ok (.goto 4, 3) := by decide +kernel
theorem dX2_readOrder_114 : decode cX2_readOrder 114 = .ok (.iconst 0, 1) := by decide +kernel
theorem dX2_readOrder_115 : decode cX2_readOrder 115 = .ok (.ireturn, 1) := by decide +kernel
theorem dX2_readOrder_116 : decode cX2_readOrder 116 = .ok (.aload_n 0, 1) := by decide +kernel
theorem dX2_readOrder_117 : decode cX2_readOrder 117 = .ok (.dup, 1) := by decide +kernel
theorem dX2_readOrder_118 : decode cX2_readOrder 118 = .ok (.getfield 15, 3) := by decide +kernel
theorem dX2_readOrder_121 : decode cX2_readOrder 121 = .ok (.iconst 1, 1) := by decide +kernel
theorem dX2_readOrder_122 : decode cX2_readOrder 122 = .ok (.iadd, 1) := by decide +kernel
theorem dX2_readOrder_123 : decode cX2_readOrder 123 = .ok (.putfield 15, 3) := by decide +kernel
theorem dX2_readOrder_126 : decode cX2_readOrder 126 = .ok (.aload_n 0, 1) := by decide +kernel
theorem dX2_readOrder_127 : decode cX2_readOrder 127 = .ok (.iconst 0, 1) := by decide +kernel
theorem dX2_readOrder_128 : decode cX2_readOrder 128 = .ok (.invokevirtual 49, 3) := by decide +kernel
theorem dX2_readOrder_131 : decode cX2_readOrder 131 = .ok (.ireturn, 1) := by decide +kernel
theorem dX2_readOrder_132 : decode cX2_readOrder 132 = .ok (.aload_n 0, 1) := by decide +kernel
theorem dX2_readOrder_133 : decode cX2_readOrder 133 = .ok (.dup, 1) := by decide +kernel
theorem dX2_readOrder_134 : decode cX2_readOrder 134 = .ok (.getfield 15, 3) := by decide +kernel
theorem dX2_readOrder_137 : decode cX2_readOrder 137 = .ok (.iconst 1, 1) := by decide +kernel
theorem dX2_readOrder_138 : decode cX2_readOrder 138 = .ok (.iadd, 1) := by decide +kernel
theorem dX2_readOrder_139 : decode cX2_readOrder 139 = .ok (.putfield 15, 3) := by decide +kernel
theorem dX2_readOrder_142 : decode cX2_readOrder 142 = .ok (.iconst 1, 1) := by decide +kernel
theorem dX2_readOrder_143 : decode cX2_readOrder 143 = .ok (.ireturn, 1) := by decide +kernel
theorem dX2_readOrder_144 : decode cX2_readOrder 144 = .ok (.iconst 0, 1) := by decide +kernel
theorem dX2_readOrder_145 : decode cX2_readOrder 145 = .ok (.ireturn, 1) := by decide +kernel
theorem dX2_readSign_0 : decode cX2_readSign 0 = .ok (.aload_n 0, 1) := by decide +kernel
theorem dX2_readSign_1 : decode cX2_readSign 1 = .ok (.getfield 9, 3) := by decide +kernel
theorem dX2_readSign_4 : decode cX2_readSign 4 = .ok (.aload_n 0, 1) := by decide +kernel
theorem dX2_readSign_5 : decode cX2_readSign 5 = .ok (.getfield 15, 3) := by decide +kernel
theorem dX2_readSign_8 : decode cX2_readSign 8 = .ok (.invokevirtual 38, 3) := by decide +kernel
theorem dX2_readSign_11 : decode cX2_readSign 11 = .ok (.iload_n 1, 1) := by decide +kernel
theorem dX2_readSign_12 : decode cX2_readSign 12 = .ok (.if_icmp .eq 5, 3) := by decide +kernel
theorem dX2_readSign_15 : decode cX2_readSign 15 = .ok (.iconst 0, 1) := by decide +kernel
theorem dX2_readSign_16 : decode cX2_readSign 16 = .ok (.ireturn, 1) := by decide +kernel
theorem dX2_readSign_17 : decode cX2_readSign 17 = .ok (.aload_n 0, 1) := by decide +kernel
theorem dX2_readSign_18 : decode cX2_readSign 18 = .ok (.dup, 1) := by decide +kernel
theorem dX2_readSign_19 : decode cX2_readSign 19 = .ok (.getfield 15, 3) := by decide +kernel
theorem dX2_readSign_22 : decode cX2_readSign 22 = .ok (.iconst 1, 1) := by decide +kernel
theorem dX2_readSign_23 : decode cX2_readSign 23 = .ok (.iadd, 1) := by decide +kernel
theorem dX2_readSign_24 : decode cX2_readSign 24 = .ok (.putfield 15, 3) := by decide +kernel
theorem dX2_readSign_27 : decode cX2_readSign 27 = .ok (.iconst 1, 1) := by decide +kernel
theorem dX2_readSign_28 : decode cX2_readSign 28 = .ok (.ireturn, 1) := by decide +kernel
theorem dX2_readOwner_0 : decode cX2_readOwner 0 = .ok (.aload_n 0, 1) := by decide +kernel
theorem dX2_readOwner_1 : decode cX2_readOwner 1 = .ok (.aload_n 0, 1) := by decide +kernel
theorem dX2_readOwner_2 : decode cX2_readOwner 2 = .ok (.aload_n 0, 1) := by decide +kernel
theorem dX2_readOwner_3 : decode cX2_readOwner 3 = .ok (.getfield 15, 3) := by decide +kernel
theorem dX2_readOwner_6 : decode cX2_readOwner 6 = .ok (.invokevirtual 53, 3) := by decide +kernel
theorem dX2_readOwner_9 : decode cX2_readOwner 9 = .ok (.putfield 57, 3) := by decide +kernel
theorem dX2_readOwner_12 : decode cX2_readOwner 12 = .ok (.aload_n 0, 1) := by decide +kernel
theorem dX2_readOwner_13 : decode cX2_readOwner 13 = .ok (.getfield 57, 3) := by decide +kernel
theorem dX2_readOwner_16 : decode cX2_readOwner 16 = .ok (.invokestatic 60, 3) := by decide +kernel
theorem dX2_readOwner_19 : decode cX2_readOwner 19 = .ok (.ifCond .ne 5, 3) := by decide +kernel
theorem dX2_readOwner_22 : decode cX2_readOwner 22 = .ok (.iconst 0, 1) := by decide +kernel
theorem dX2_readOwner_23 : decode cX2_readOwner 23 = .ok (.ireturn, 1) := by decide +kernel
theorem dX2_readOwner_24 : decode cX2_readOwner 24 = .ok (.aload_n 0, 1) := by decide +kernel
theorem dX2_readOwner_25 : decode cX2_readOwner 25 = .ok (.dup, 1) := by decide +kernel
theorem dX2_readOwner_26 : decode cX2_readOwner 26 = .ok (.getfield 15, 3) := by decide +kernel
theorem dX2_readOwner_29 : decode cX2_readOwner 29 = .ok (.iconst 1, 1) := by decide +kernel
theorem dX2_readOwner_30 : decode cX2_readOwner 30 = .ok (.iadd, 1) := by decide +kernel
theorem dX2_readOwner_31 : decode cX2_readOwner 31 = .ok (.putfield 15, 3) := by decide +kernel
theorem dX2_readOwner_34 : decode cX2_readOwner 34 = .ok (.iconst 1, 1) := by decide +kernel
theorem dX2_readOwner_35 : decode cX2_readOwner 35 = .ok (.ireturn, 1) := by decide +kernel
theorem dX2_readNumber_0 : decode cX2_readNumber 0 = .ok (.aload_n 0, 1) := by decide +kernel
theorem dX2_readNumber_1 : decode cX2_readNumber 1 = .ok (.aload_n 0, 1) := by decide +kernel
theorem dX2_readNumber_2 : decode cX2_readNumber 2 = .ok (.getfield 15, 3) := by decide +kernel
theorem dX2_readNumber_5 : decode cX2_readNumber 5 = .ok (.invokevirtual 53, 3) := by decide +kernel
theorem dX2_readNumber_8 : decode cX2_readNumber 8 = .ok (.istore_n 2, 1) := by decide +kernel
theorem dX2_readNumber_9 : decode cX2_readNumber 9 = .ok (.iload_n 2, 1) := by decide +kernel
theorem dX2_readNumber_10 : decode cX2_readNumber 10 = .ok (.iload_n 1, 1) := by decide +kernel
theorem dX2_readNumber_11 : decode cX2_readNumber 11 = .ok (.invokestatic 64, 3) := by decide +kernel
theorem dX2_readNumber_14 : decode cX2_readNumber 14 = .ok (.ifCond .ne 5, 3) := by decide +kernel
theorem dX2_readNumber_17 : decode cX2_readNumber 17 = .ok (.iconst 0, 1) := by decide +kernel
theorem dX2_readNumber_18 : decode cX2_readNumber 18 = .ok (.ireturn, 1) := by decide +kernel
theorem dX2_readNumber_19 : decode cX2_readNumber 19 = .ok (.aload_n 0, 1) := by decide +kernel
theorem dX2_readNumber_20 : decode cX2_readNumber 20 = .ok (.dup, 1) := by decide +kernel
theorem dX2_readNumber_21 : decode cX2_readNumber 21 = .ok (.getfield 15, 3) := by decide +kernel
theorem dX2_readNumber_24 : decode cX2_readNumber 24 = .ok (.iconst 1, 1) := by decide +kernel
theorem dX2_readNumber_25 : decode cX2_readNumber 25 = .ok (.iadd, 1) := by decide +kernel
theorem dX2_readNumber_26 : decode cX2_readNumber 26 = .ok (.putfield 15, 3) := by decide +kernel
theorem dX2_readNumber_29 : decode cX2_readNumber 29 = .ok (.aload_n 0, 1) := by decide +kernel
theorem dX2_readNumber_30 : decode cX2_readNumber 30 = .ok (.iload_n 2, 1) := by decide +kernel
theorem dX2_readNumber_31 : decode cX2_readNumber 31 = .ok (.putfield 68, 3) := by decide +kernel
theorem dX2_readNumber_34 : decode cX2_readNumber 34 = .ok (.aload_n 0, 1) := by decide +kernel
theorem dX2_readNumber_35 : decode cX2_readNumber 35 = .ok (.aload_n 0, 1) := by decide +kernel
theorem dX2_readNumber_36 : decode cX2_readNumber 36 = .ok (.getfield 15, 3) := by decide +kernel
theorem dX2_readNumber_39 : decode cX2_readNumber 39 = .ok (.invokevirtual 53, 3) := by decide +kernel
theorem dX2_readNumber_42 : decode cX2_readNumber 42 = .ok (.istore_n 3, 1) := by decide +kernel
theorem dX2_readNumber_43 : decode cX2_readNumber 43 = .ok (.iload_n 2, 1) := by decide +kernel
theorem dX2_readNumber_44 : decode cX2_readNumber 44 = .ok (.ifCond .eq 41, 3) := by decide +kernel
theorem dX2_readNumber_47 : decode cX2_readNumber 47 = .ok (.iload_n 3, 1) := by decide +kernel
theorem dX2_readNumber_48 : decode cX2_readNumber 48 = .ok (.iconst (-1), 1) := by decide +kernel
theorem dX2_readNumber_49 : decode cX2_readNumber 49 = .ok (.if_icmp .eq 36, 3) := by decide +kernel
theorem dX2_readNumber_52 : decode cX2_readNumber 52 = .ok (.bipush 10, 2) := by decide +kernel
theorem dX2_readNumber_54 : decode cX2_readNumber 54 = .ok (.iload_n 2, 1) := by decide +kernel
theorem dX2_readNumber_55 : decode cX2_readNumber 55 = .ok (.imul, 1) := by decide +kernel
theorem dX2_readNumber_56 : decode cX2_readNumber 56 = .ok (.iload_n 3, 1) := by decide +kernel
theorem dX2_readNumber_57 : decode cX2_readNumber 57 = .ok (.iadd, 1) := by decide +kernel
theorem dX2_readNumber_58 : decode cX2_readNumber 58 = .ok (.iload_n 1, 1) := by decide +kernel
theorem dX2_readNumber_59 : decode cX2_readNumber 59 = .ok (.invokestatic 64, 3) := by decide +kernel
theorem dX2_readNumber_62 : decode cX2_readNumber 62 = .ok (.ifCond .eq 23, 3) := by decide +kernel
theorem dX2_readNumber_65 : decode cX2_readNumber 65 = .ok (.aload_n 0, 1) := by decide +kernel
theorem dX2_readNumber_66 : decode cX2_readNumber 66 = .ok (.dup, 1) := by decide +kernel
theorem dX2_readNumber_67 : decode cX2_readNumber 67 = .ok (.getfield 15, 3) := by decide +kernel
theorem dX2_readNumber_70 : decode cX2_readNumber 70 = .ok (.iconst 1, 1) := by decide +kernel
theorem dX2_readNumber_71 : decode cX2_readNumber 71 = .ok (.iadd, 1) := by decide +kernel
theorem dX2_readNumber_72 : decode cX2_readNumber 72 = .ok (.putfield 15, 3) := by decide +kernel
theorem dX2_readNumber_75 : decode cX2_readNumber 75 = .ok (.aload_n 0, 1) := by decide +kernel
theorem dX2_readNumber_76 : decode cX2_readNumber 76 = .ok (.bipush 10, 2) := by decide +kernel
theorem dX2_readNumber_78 : decode cX2_readNumber 78 = .ok (.iload_n 2, 1) := by decide +kernel
theorem dX2_readNumber_79 : decode cX2_readNumber 79 = .ok (.imul, 1) := by decide +kernel
theorem dX2_readNumber_80 : decode cX2_readNumber 80 = .ok (.iload_n 3, 1) := by decide +kernel
theorem dX2_readNumber_81 : decode cX2_readNumber 81 = .ok (.iadd, 1) := by decide +kernel
theorem dX2_readNumber_82 : decode cX2_readNumber 82 = .ok (.putfield 68, 3) := by decide +kernel
theorem dX2_readNumber_85 : decode cX2_readNumber 85 = .ok (.iconst 1, 1) := by decide +kernel
theorem dX2_readNumber_86 : decode cX2_readNumber 86 = .ok (.ireturn, 1) := by decide +kernel
theorem dX2_isAllowed_0 : decode cX2_isAllowed 0 = .ok (.iload_n 1, 1) := by decide +kernel
theorem dX2_isAllowed_1 : decode cX2_isAllowed 1 = .ok (.ifCond .eq 10, 3) := by decide +kernel
theorem dX2_isAllowed_4 : decode cX2_isAllowed 4 = .ok (.iload_n 0, 1) := by decide +kernel
theorem dX2_isAllowed_5 : decode cX2_isAllowed 5 = .ok (.invokestatic 71, 3) := by decide +kernel
theorem dX2_isAllowed_8 : decode cX2_isAllowed 8 = .ok (.goto 7, 3) := by decide +kernel
theorem dX2_isAllowed_11 : decode cX2_isAllowed 11 = .ok (.iload_n 0, 1) := by decide +kernel
theorem dX2_isAllowed_12 : decode cX2_isAllowed 12 = .ok (.invokestatic 76, 3) := by decide +kernel
theorem dX2_isAllowed_15 : decode cX2_isAllowed 15 = .ok (.ireturn, 1) := by decide +kernel
theorem dX2_digitAt_0 : decode cX2_digitAt 0 = .ok (.aload_n 0, 1) := by decide +kernel
theorem dX2_digitAt_1 : decode cX2_digitAt 1 = .ok (.getfield 9, 3) := by decide +kernel
theorem dX2_digitAt_4 : decode cX2_digitAt 4 = .ok (.iload_n 1, 1) := by decide +kernel
theorem dX2_digitAt_5 : decode cX2_digitAt 5 = .ok (.invokevirtual 38, 3) := by decide +kernel
theorem dX2_digitAt_8 : decode cX2_digitAt 8 = .ok (.istore_n 2, 1) := by decide +kernel
theorem dX2_digitAt_9 : decode cX2_digitAt 9 = .ok (.iload_n 2, 1) := by decide +kernel
theorem dX2_digitAt_10 : decode cX2_digitAt 10 = .ok (.bipush 48, 2) := by decide +kernel
theorem dX2_digitAt_12 : decode cX2_digitAt 12 = .ok (.if_icmp .lt 16, 3) := by decide +kernel
theorem dX2_digitAt_15 : decode cX2_digitAt 15 = .ok (.iload_n 2, 1) := by decide +kernel
theorem dX2_digitAt_16 : decode cX2_digitAt 16 = .ok (.bipush 57, 2) := by decide +kernel
theorem dX2_digitAt_18 : decode cX2_digitAt 18 = .ok (.if_icmp .gt 10, 3) := by decide +kernel
theorem dX2_digitAt_21 : decode cX2_digitAt 21 = .ok (.iload_n 2, 1) := by decide +kernel
theorem dX2_digitAt_22 : decode cX2_digitAt 22 = .ok (.bipush 48, 2) := by decide +kernel
theorem dX2_digitAt_24 : decode cX2_digitAt 24 = .ok (.isub, 1) := by decide +kernel
theorem dX2_digitAt_25 : decode cX2_digitAt 25 = .ok (.goto 4, 3) := by decide +kernel
theorem dX2_digitAt_28 : decode cX2_digitAt 28 = .ok (.iconst (-1), 1) := by decide +kernel
theorem dX2_digitAt_29 : decode cX2_digitAt 29 = .ok (.ireturn, 1) := by decide +kernel
theorem dX3_init_0 : decode cX3_init 0 = .ok (.aload_n 0, 1) := by decide +kernel
theorem dX3_init_1 : decode cX3_init 1 = .ok (.invokespecial 3, 3) := by decide +kernel
theorem dX3_init_4 : decode cX3_init 4 = .ok (.aload_n 0, 1) := by decide +kernel
theorem dX3_init_5 : decode cX3_init 5 = .ok (.bipush 60, 2) := by decide +kernel
theorem dX3_init_7 : decode cX3_init 7 = .ok (.newarray .char, 2) := by decide +kernel
theorem dX3_init_9 : decode cX3_init 9 = .ok (.putfield 9, 3) := by decide +kernel
theorem dX3_init_12 : decode cX3_init 12 = .ok (.return_, 1) := by decide +kernel
theorem dX3_add_0 : decode cX3_add 0 = .ok (.aload_n 0, 1) := by decide +kernel
theorem dX3_add_1 : decode cX3_add 1 = .ok (.getfield 15, 3) := by decide +kernel
theorem dX3_add_4 : decode cX3_add 4 = .ok (.iconst 0, 1) := by decide +kernel
theorem dX3_add_5 : decode cX3_add 5 = .ok (.bipush 59, 2) := by decide +kernel
theorem dX3_add_7 : decode cX3_add 7 = .ok (.invokestatic 19, 3) := by decide +kernel
theorem dX3_add_10 : decode cX3_add 10 = .ok (.ifCond .eq 23, 3) := by decide +kernel
theorem dX3_add_13 : decode cX3_add 13 = .ok (.aload_n 0, 1) := by decide +kernel
theorem dX3_add_14 : decode cX3_add 14 = .ok (.getfield 9, 3) := by decide +kernel
theorem dX3_add_17 : decode cX3_add 17 = .ok (.aload_n 0, 1) := by decide +kernel
theorem dX3_add_18 : decode cX3_add 18 = .ok (.getfield 15, 3) := by decide +kernel
theorem dX3_add_21 : decode cX3_add 21 = .ok (.iload_n 1, 1) := by decide +kernel
theorem dX3_add_22 : decode cX3_add 22 = .ok (.castore, 1) := by decide +kernel
theorem dX3_add_23 : decode cX3_add 23 = .ok (.aload_n 0, 1) := by decide +kernel
theorem dX3_add_24 : decode cX3_add 24 = .ok (.dup, 1) := by decide +kernel
theorem dX3_add_25 : decode cX3_add 25 = .ok (.getfield 15, 3) := by decide +kernel
theorem dX3_add_28 : decode cX3_add 28 = .ok (.iconst 1, 1) := by decide +kernel
theorem dX3_add_29 : decode cX3_add 29 = .ok (.iadd, 1) := by decide +kernel
theorem dX3_add_30 : decode cX3_add 30 = .ok (.putfield 15, 3) := by decide +kernel
theorem dX3_add_33 : decode cX3_add 33 = .ok (.return_, 1) := by decide +kernel
theorem dX3_signAt_0 : decode cX3_signAt 0 = .ok (.iload_n 1, 1) := by decide +kernel
theorem dX3_signAt_1 : decode cX3_signAt 1 = .ok (.iconst 0, 1) := by decide +kernel
theorem dX3_signAt_2 : decode cX3_signAt 2 = .ok (.bipush 59, 2) := by decide +kernel
theorem dX3_signAt_4 : decode cX3_signAt 4 = .ok (.invokestatic 19, 3) := by decide +kernel
theorem dX3_signAt_7 : decode cX3_signAt 7 = .ok (.ifCond .eq 20, 3) := by decide +kernel
theorem dX3_signAt_10 : decode cX3_signAt 10 = .ok (.iload_n 1, 1) := by decide +kernel
theorem dX3_signAt_11 : decode cX3_signAt 11 = .ok (.aload_n 0, 1) := by decide +kernel
theorem dX3_signAt_12 : decode cX3_signAt 12 = .ok (.getfield 15, 3) := by decide +kernel
theorem dX3_signAt_15 : decode cX3_signAt 15 = .ok (.if_icmp .ge 12, 3) := by decide +kernel
theorem dX3_signAt_18 : decode cX3_signAt 18 = .ok (.aload_n 0, 1) := by decide +kernel
theorem dX3_signAt_19 : decode cX3_signAt 19 = .ok (.getfield 9, 3) := by decide +kernel
theorem dX3_signAt_22 : decode cX3_signAt 22 = .ok (.iload_n 1, 1) := by decide +kernel
theorem dX3_signAt_23 : decode cX3_signAt 23 = .ok (.caload, 1) := by decide +kernel
theorem dX3_signAt_24 : decode cX3_signAt 24 = .ok (.goto 5, 3) := by decide +kernel
theorem dX3_signAt_27 : decode cX3_signAt 27 = .ok (.bipush 32, 2) := by decide +kernel
theorem dX3_signAt_29 : decode cX3_signAt 29 = .ok (.ireturn, 1) := by decide +kernel
theorem dX4_isGangway_0 : decode cX4_isGangway 0 = .ok (.iload_n 0, 1) := by decide +kernel
theorem dX4_isGangway_1 : decode cX4_isGangway 1 = .ok (.iconst 0, 1) := by decide +kernel
theorem dX4_isGangway_2 : decode cX4_isGangway 2 = .ok (.bipush 27, 2) := by decide +kernel
theorem dX4_isGangway_4 : decode cX4_isGangway 4 = .ok (.invokestatic 9, 3) := by decide +kernel
theorem dX4_isGangway_7 : decode cX4_isGangway 7 = .ok (.ifCond .ne 5, 3) := by decide +kernel
theorem dX4_isGangway_10 : decode cX4_isGangway 10 = .ok (.iconst 0, 1) := by decide +kernel
theorem dX4_isGangway_11 : decode cX4_isGangway 11 = .ok (.ireturn, 1) := by decide +kernel
theorem dX4_isGangway_12 : decode cX4_isGangway 12 = .ok (.iload_n 0, 1) := by decide +kernel
theorem dX4_isGangway_13 : decode cX4_isGangway 13 = .ok (.bipush 16, 2) := by decide +kernel
theorem dX4_isGangway_15 : decode cX4_isGangway 15 = .ok (.if_icmp .ge 10, 3) := by decide +kernel
theorem dX4_isGangway_18 : decode cX4_isGangway 18 = .ok (.iload_n 0, 1) := by decide +kernel
theorem dX4_isGangway_19 : decode cX4_isGangway 19 = .ok (.iconst 4, 1) := by decide +kernel
theorem dX4_isGangway_20 : decode cX4_isGangway 20 = .ok (.irem, 1) := by decide +kernel
theorem dX4_isGangway_21 : decode cX4_isGangway 21 = .ok (.iconst 3, 1) := by decide +kernel
theorem dX4_isGangway_22 : decode cX4_isGangway 22 = .ok (.if_icmp .eq 7, 3) := by decide +kernel
theorem dX4_isGangway_25 : decode cX4_isGangway 25 = .ok (.iconst 1, 1) := by decide +kernel
theorem dX4_isGangway_26 : decode cX4_isGangway 26 = .ok (.goto 4, 3) := by decide +kernel
theorem dX4_isGangway_29 : decode cX4_isGangway 29 = .ok (.iconst 0, 1) := by decide +kernel
theorem dX4_isGangway_30 : decode cX4_isGangway 30 = .ok (.ireturn, 1) := by decide +kernel
theorem dX4_lesserRoof_0 : decode cX4_lesserRoof 0 = .ok (.iload_n 0, 1) := by decide +kernel
theorem dX4_lesserRoof_1 : decode cX4_lesserRoof 1 = .ok (.bipush 16, 2) := by decide +kernel
theorem dX4_lesserRoof_3 : decode cX4_lesserRoof 3 = .ok (.if_icmp .ge 7, 3) := by decide +kernel
theorem dX4_lesserRoof_6 : decode cX4_lesserRoof 6 = .ok (.iload_n 0, 1) := by decide +kernel
theorem dX4_lesserRoof_7 : decode cX4_lesserRoof 7 = .ok (.goto 7, 3) := by decide +kernel
theorem dX4_lesserRoof_10 : decode cX4_lesserRoof 10 = .ok (.iload_n 0, 1) := by decide +kernel
theorem dX4_lesserRoof_11 : decode cX4_lesserRoof 11 = .ok (.bipush 16, 2) := by decide +kernel
theorem dX4_lesserRoof_13 : decode cX4_lesserRoof 13 = .ok (.isub, 1) := by decide +kernel
theorem dX4_lesserRoof_14 : decode cX4_lesserRoof 14 = .ok (.ireturn, 1) := by decide +kernel
theorem dX4_greaterRoof_0 : decode cX4_greaterRoof 0 = .ok (.iload_n 0, 1) := by decide +kernel
theorem dX4_greaterRoof_1 : decode cX4_greaterRoof 1 = .ok (.invokestatic 13, 3) := by decide +kernel
theorem dX4_greaterRoof_4 : decode cX4_greaterRoof 4 = .ok (.iload_n 0, 1) := by decide +kernel
theorem dX4_greaterRoof_5 : decode cX4_greaterRoof 5 = .ok (.bipush 16, 2) := by decide +kernel
theorem dX4_greaterRoof_7 : decode cX4_greaterRoof 7 = .ok (.if_icmp .ge 7, 3) := by decide +kernel
theorem dX4_greaterRoof_10 : decode cX4_greaterRoof 10 = .ok (.iconst 1, 1) := by decide +kernel
theorem dX4_greaterRoof_11 : decode cX4_greaterRoof 11 = .ok (.goto 4, 3) := by decide +kernel
theorem dX4_greaterRoof_14 : decode cX4_greaterRoof 14 = .ok (.iconst 4, 1) := by decide +kernel
theorem dX4_greaterRoof_15 : decode cX4_greaterRoof 15 = .ok (.iadd, 1) := by decide +kernel
theorem dX4_greaterRoof_16 : decode cX4_greaterRoof 16 = .ok (.ireturn, 1) := by decide +kernel
theorem dX4_roofsOf_0 : decode cX4_roofsOf 0 = .ok (.iconst 1, 1) := by decide +kernel
theorem dX4_roofsOf_1 : decode cX4_roofsOf 1 = .ok (.iload_n 0, 1) := by decide +kernel
theorem dX4_roofsOf_2 : decode cX4_roofsOf 2 = .ok (.invokestatic 13, 3) := by decide +kernel
theorem dX4_roofsOf_5 : decode cX4_roofsOf 5 = .ok (.ishl, 1) := by decide +kernel
theorem dX4_roofsOf_6 : decode cX4_roofsOf 6 = .ok (.iconst 1, 1) := by decide +kernel
theorem dX4_roofsOf_7 : decode cX4_roofsOf 7 = .ok (.iload_n 0, 1) := by decide +kernel
theorem dX4_roofsOf_8 : decode cX4_roofsOf 8 = .ok (.invokestatic 19, 3) := by decide +kernel
theorem dX4_roofsOf_11 : decode cX4_roofsOf 11 = .ok (.ishl, 1) := by decide +kernel
theorem dX4_roofsOf_12 : decode cX4_roofsOf 12 = .ok (.ior, 1) := by decide +kernel
theorem dX4_roofsOf_13 : decode cX4_roofsOf 13 = .ok (.ireturn, 1) := by decide +kernel
theorem dX4_otherRoof_0 : decode cX4_otherRoof 0 = .ok (.iload_n 1, 1) := by decide +kernel
theorem dX4_otherRoof_1 : decode cX4_otherRoof 1 = .ok (.iload_n 0, 1) := by decide +kernel
theorem dX4_otherRoof_2 : decode cX4_otherRoof 2 = .ok (.invokestatic 13, 3) := by decide +kernel
theorem dX4_otherRoof_5 : decode cX4_otherRoof 5 = .ok (.if_icmp .ne 10, 3) := by decide +kernel
theorem dX4_otherRoof_8 : decode cX4_otherRoof 8 = .ok (.iload_n 0, 1) := by decide +kernel
theorem dX4_otherRoof_9 : decode cX4_otherRoof 9 = .ok (.invokestatic 19, 3) := by decide +kernel
theorem dX4_otherRoof_12 : decode cX4_otherRoof 12 = .ok (.goto 7, 3) := by decide +kernel
theorem dX4_otherRoof_15 : decode cX4_otherRoof 15 = .ok (.iload_n 0, 1) := by decide +kernel
theorem dX4_otherRoof_16 : decode cX4_otherRoof 16 = .ok (.invokestatic 13, 3) := by decide +kernel
theorem dX4_otherRoof_19 : decode cX4_otherRoof 19 = .ok (.ireturn, 1) := by decide +kernel
theorem dX4_gangwaysOf_0 : decode cX4_gangwaysOf 0 = .ok (.iconst 0, 1) := by decide +kernel
theorem dX4_gangwaysOf_1 : decode cX4_gangwaysOf 1 = .ok (.istore_n 1, 1) := by decide +kernel
theorem dX4_gangwaysOf_2 : decode cX4_gangwaysOf 2 = .ok (.iconst 0, 1) := by decide +kernel
theorem dX4_gangwaysOf_3 : decode cX4_gangwaysOf 3 = .ok (.istore_n 2, 1) := by decide +kernel
theorem dX4_gangwaysOf_4 : decode cX4_gangwaysOf 4 = .ok (.iload_n 2, 1) := by decide +kernel
theorem dX4_gangwaysOf_5 : decode cX4_gangwaysOf 5 = .ok (.bipush 28, 2) := by decide +kernel
theorem dX4_gangwaysOf_7 : decode cX4_gangwaysOf 7 = .ok (.if_icmp .ge 33, 3) := by decide +kernel
theorem dX4_gangwaysOf_10 : decode cX4_gangwaysOf 10 = .ok (.iload_n 2, 1) := by decide +kernel
theorem dX4_gangwaysOf_11 : decode cX4_gangwaysOf 11 = .ok (.invokestatic 22, 3) := by decide +kernel
theorem dX4_gangwaysOf_14 : decode cX4_gangwaysOf 14 = .ok (.ifCond .eq 20, 3) := by decide +kernel
theorem dX4_gangwaysOf_17 : decode cX4_gangwaysOf 17 = .ok (.iload_n 2, 1) := by decide +kernel
theorem dX4_gangwaysOf_18 : decode cX4_gangwaysOf 18 = .ok (.invokestatic 26, 3) := by decide +kernel
theorem dX4_gangwaysOf_21 : decode cX4_gangwaysOf 21 = .ok (.iload_n 0, 1) := by decide +kernel
theorem dX4_gangwaysOf_22 : decode cX4_gangwaysOf 22 = .ok (.invokestatic 29, 3) := by decide +kernel
theorem dX4_gangwaysOf_25 : decode cX4_gangwaysOf 25 = .ok (.ifCond .eq 9, 3) := by decide +kernel
theorem dX4_gangwaysOf_28 : decode cX4_gangwaysOf 28 = .ok (.iload_n 1, 1) := by decide +kernel
theorem dX4_gangwaysOf_29 : decode cX4_gangwaysOf 29 = .ok (.iconst 1, 1) := by decide +kernel
theorem dX4_gangwaysOf_30 : decode cX4_gangwaysOf 30 = .ok (.iload_n 2, 1) := by decide +kernel
theorem dX4_gangwaysOf_31 : decode cX4_gangwaysOf 31 = .ok (.ishl, 1) := by decide +kernel
theorem dX4_gangwaysOf_32 : decode cX4_gangwaysOf 32 = .ok (.ior, 1) := by decide +kernel
theorem dX4_gangwaysOf_33 : decode cX4_gangwaysOf 33 = .ok (.istore_n 1, 1) := by decide +kernel
theorem dX4_gangwaysOf_34 : decode cX4_gangwaysOf 34 = .ok (.iinc 2 1, 3) := by decide +kernel
theorem dX4_gangwaysOf_37 : decode cX4_gangwaysOf 37 = .ok (.goto (-33), 3) := by decide +kernel
theorem dX4_gangwaysOf_40 : decode cX4_gangwaysOf 40 = .ok (.iload_n 1, 1) := by decide +kernel
theorem dX4_gangwaysOf_41 : decode cX4_gangwaysOf 41 = .ok (.ireturn, 1) := by decide +kernel
theorem dX4_nextRoof_0 : decode cX4_nextRoof 0 = .ok (.iload_n 1, 1) := by decide +kernel
theorem dX4_nextRoof_1 : decode cX4_nextRoof 1 = .ok (.tableswitch 70 0 2 #[27, 42, 56], 27) := by decide +kernel
theorem dX4_nextRoof_28 : decode cX4_nextRoof 28 = .ok (.iload_n 0, 1) := by decide +kernel
theorem dX4_nextRoof_29 : decode cX4_nextRoof 29 = .ok (.iconst 4, 1) := by decide +kernel
theorem dX4_nextRoof_30 : decode cX4_nextRoof 30 = .ok (.irem, 1) := by decide +kernel
theorem dX4_nextRoof_31 : decode cX4_nextRoof 31 = .ok (.iconst 3, 1) := by decide +kernel
theorem dX4_nextRoof_32 : decode cX4_nextRoof 32 = .ok (.if_icmp .ge 9, 3) := by decide +kernel
theorem dX4_nextRoof_35 : decode cX4_nextRoof 35 = .ok (.iload_n 0, 1) := by decide +kernel
theorem dX4_nextRoof_36 : decode cX4_nextRoof 36 = .ok (.iconst 1, 1) := by decide +kernel
theorem dX4_nextRoof_37 : decode cX4_nextRoof 37 = .ok (.iadd, 1) := by decide +kernel
theorem dX4_nextRoof_38 : decode cX4_nextRoof 38 = .ok (.goto 4, 3) := by decide +kernel
theorem dX4_nextRoof_41 : decode cX4_nextRoof 41 = .ok (.iconst (-1), 1) := by decide +kernel
theorem dX4_nextRoof_42 : decode cX4_nextRoof 42 = .ok (.ireturn, 1) := by decide +kernel
theorem dX4_nextRoof_43 : decode cX4_nextRoof 43 = .ok (.iload_n 0, 1) := by decide +kernel
theorem dX4_nextRoof_44 : decode cX4_nextRoof 44 = .ok (.bipush 12, 2) := by decide +kernel
theorem dX4_nextRoof_46 : decode cX4_nextRoof 46 = .ok (.if_icmp .ge 9, 3) := by decide +kernel
theorem dX4_nextRoof_49 : decode cX4_nextRoof 49 = .ok (.iload_n 0, 1) := by decide +kernel
theorem dX4_nextRoof_50 : decode cX4_nextRoof 50 = .ok (.iconst 4, 1) := by decide +kernel
theorem dX4_nextRoof_51 : decode cX4_nextRoof 51 = .ok (.iadd, 1) := by decide +kernel
theorem dX4_nextRoof_52 : decode cX4_nextRoof 52 = .ok (.goto 4, 3) := by decide +kernel
theorem dX4_nextRoof_55 : decode cX4_nextRoof 55 = .ok (.iconst (-1), 1) := by decide +kernel
theorem dX4_nextRoof_56 : decode cX4_nextRoof 56 = .ok (.ireturn, 1) := by decide +kernel
theorem dX4_nextRoof_57 : decode cX4_nextRoof 57 = .ok (.iload_n 0, 1) := by decide +kernel
theorem dX4_nextRoof_58 : decode cX4_nextRoof 58 = .ok (.iconst 4, 1) := by decide +kernel
theorem dX4_nextRoof_59 : decode cX4_nextRoof 59 = .ok (.irem, 1) := by decide +kernel
theorem dX4_nextRoof_60 : decode cX4_nextRoof 60 = .ok (.ifCond .le 9, 3) := by decide +kernel
theorem dX4_nextRoof_63 : decode cX4_nextRoof 63 = .ok (.iload_n 0, 1) := by decide +kernel
theorem dX4_nextRoof_64 : decode cX4_nextRoof 64 = .ok (.iconst 1, 1) := by decide +kernel
theorem dX4_nextRoof_65 : decode cX4_nextRoof 65 = .ok (.isub, 1) := by decide +kernel
theorem dX4_nextRoof_66 : decode cX4_nextRoof 66 = .ok (.goto 4, 3) := by decide +kernel
theorem dX4_nextRoof_69 : decode cX4_nextRoof 69 = .ok (.iconst (-1), 1) := by decide +kernel
theorem dX4_nextRoof_70 : decode cX4_nextRoof 70 = .ok (.ireturn, 1) := by decide +kernel
theorem dX4_nextRoof_71 : decode cX4_nextRoof 71 = .ok (.iload_n 0, 1) := by decide +kernel
theorem dX4_nextRoof_72 : decode cX4_nextRoof 72 = .ok (.iconst 4, 1) := by decide +kernel
theorem dX4_nextRoof_73 : decode cX4_nextRoof 73 = .ok (.if_icmp .lt 9, 3) := by decide +kernel
theorem dX4_nextRoof_76 : decode cX4_nextRoof 76 = .ok (.iload_n 0, 1) := by decide +kernel
theorem dX4_nextRoof_77 : decode cX4_nextRoof 77 = .ok (.iconst 4, 1) := by decide +kernel
theorem dX4_nextRoof_78 : decode cX4_nextRoof 78 = .ok (.isub, 1) := by decide +kernel
theorem dX4_nextRoof_79 : decode cX4_nextRoof 79 = .ok (.goto 4, 3) := by decide +kernel
theorem dX4_nextRoof_82 : decode cX4_nextRoof 82 = .ok (.iconst (-1), 1) := by decide +kernel
theorem dX4_nextRoof_83 : decode cX4_nextRoof 83 = .ok (.ireturn, 1) := by decide +kernel
theorem dX4_roofAndNext_0 : decode cX4_roofAndNext 0 = .ok (.iconst 0, 1) := by decide +kernel
theorem dX4_roofAndNext_1 : decode cX4_roofAndNext 1 = .ok (.istore_n 3, 1) := by decide +kernel
theorem dX4_roofAndNext_2 : decode cX4_roofAndNext 2 = .ok (.iload_n 0, 1) := by decide +kernel
theorem dX4_roofAndNext_3 : decode cX4_roofAndNext 3 = .ok (.istore 4, 2) := by decide +kernel
theorem dX4_roofAndNext_5 : decode cX4_roofAndNext 5 = .ok (.iconst 0, 1) := by decide +kernel
theorem dX4_roofAndNext_6 : decode cX4_roofAndNext 6 = .ok (.istore 5, 2) := by decide +kernel
theorem dX4_roofAndNext_8 : decode cX4_roofAndNext 8 = .ok (.iload 5, 2) := by decide +kernel
theorem dX4_roofAndNext_10 : decode cX4_roofAndNext 10 = .ok (.iload_n 2, 1) := by decide +kernel
theorem dX4_roofAndNext_11 : decode cX4_roofAndNext 11 = .ok (.if_icmp .gt 30, 3) := by decide +kernel
theorem dX4_roofAndNext_14 : decode cX4_roofAndNext 14 = .ok (.iload 4, 2) := by decide +kernel
theorem dX4_roofAndNext_16 : decode cX4_roofAndNext 16 = .ok (.iconst (-1), 1) := by decide +kernel
theorem dX4_roofAndNext_17 : decode cX4_roofAndNext 17 = .ok (.if_icmp .eq 24, 3) := by decide +kernel
theorem dX4_roofAndNext_20 : decode cX4_roofAndNext 20 = .ok (.iload_n 3, 1) := by decide +kernel
theorem dX4_roofAndNext_21 : decode cX4_roofAndNext 21 = .ok (.iconst 1, 1) := by decide +kernel
theorem dX4_roofAndNext_22 : decode cX4_roofAndNext 22 = .ok (.iload 4, 2) := by decide +kernel
theorem dX4_roofAndNext_24 : decode cX4_roofAndNext 24 = .ok (.ishl, 1) := by decide +kernel
theorem dX4_roofAndNext_25 : decode cX4_roofAndNext 25 = .ok (.ior, 1) := by decide +kernel
theorem dX4_roofAndNext_26 : decode cX4_roofAndNext 26 = .ok (.istore_n 3, 1) := by decide +kernel
theorem dX4_roofAndNext_27 : decode cX4_roofAndNext 27 = .ok (.iload 4, 2) := by decide +kernel
theorem dX4_roofAndNext_29 : decode cX4_roofAndNext 29 = .ok (.iload_n 1, 1) := by decide +kernel
theorem dX4_roofAndNext_30 : decode cX4_roofAndNext 30 = .ok (.invokestatic 33, 3) := by decide +kernel
theorem dX4_roofAndNext_33 : decode cX4_roofAndNext 33 = .ok (.istore 4, 2) := by decide +kernel
theorem dX4_roofAndNext_35 : decode cX4_roofAndNext 35 = .ok (.iinc 5 1, 3) := by decide +kernel
theorem dX4_roofAndNext_38 : decode cX4_roofAndNext 38 = .ok (.goto (-30), 3) := by decide +kernel
theorem dX4_roofAndNext_41 : decode cX4_roofAndNext 41 = .ok (.iload_n 3, 1) := by decide +kernel
theorem dX4_roofAndNext_42 : decode cX4_roofAndNext 42 = .ok (.ireturn, 1) := by decide +kernel
theorem dX4_roofAndNeighbours_0 : decode cX4_roofAndNeighbours 0 = .ok (.iconst 1, 1) := by decide +kernel
theorem dX4_roofAndNeighbours_1 : decode cX4_roofAndNeighbours 1 = .ok (.iload_n 0, 1) := by decide +kernel
theorem dX4_roofAndNeighbours_2 : decode cX4_roofAndNeighbours 2 = .ok (.ishl, 1) := by decide +kernel
theorem dX4_roofAndNeighbours_3 : decode cX4_roofAndNeighbours 3 = .ok (.istore_n 1, 1) := by decide +kernel
theorem dX4_roofAndNeighbours_4 : decode cX4_roofAndNeighbours 4 = .ok (.iconst 0, 1) := by decide +kernel
theorem dX4_roofAndNeighbours_5 : decode cX4_roofAndNeighbours 5 = .ok (.istore_n 2, 1) := by decide +kernel
theorem dX4_roofAndNeighbours_6 : decode cX4_roofAndNeighbours 6 = .ok (.iload_n 2, 1) := by decide +kernel
theorem dX4_roofAndNeighbours_7 : decode cX4_roofAndNeighbours 7 = .ok (.iconst 4, 1) := by decide +kernel
theorem dX4_roofAndNeighbours_8 : decode cX4_roofAndNeighbours 8 = .ok (.if_icmp .ge 26, 3) := by decide +kernel
theorem dX4_roofAndNeighbours_11 : decode cX4_roofAndNeighbours 11 = .ok (.iload_n 0, 1) := by decide +kernel
theorem dX4_roofAndNeighbours_12 : decode cX4_roofAndNeighbours 12 = .ok (.iload_n 2, 1) := by decide +kernel
theorem dX4_roofAndNeighbours_13 : decode cX4_roofAndNeighbours 13 = .ok (.invokestatic 33, 3) := by decide +kernel
theorem dX4_roofAndNeighbours_16 : decode cX4_roofAndNeighbours 16 = .ok (.istore_n 3, 1) := by decide +kernel
theorem dX4_roofAndNeighbours_17 : decode cX4_roofAndNeighbours 17 = .ok (.iload_n 3, 1) := by decide +kernel
theorem dX4_roofAndNeighbours_18 : decode cX4_roofAndNeighbours 18 = .ok (.iconst (-1), 1) := by decide +kernel
theorem dX4_roofAndNeighbours_19 : decode cX4_roofAndNeighbours 19 = .ok (.if_icmp .eq 9, 3) := by decide +kernel
theorem dX4_roofAndNeighbours_22 : decode cX4_roofAndNeighbours 22 = .ok (.iload_n 1, 1) := by decide +kernel
theorem dX4_roofAndNeighbours_23 : decode cX4_roofAndNeighbours 23 = .ok (.iconst 1, 1) := by decide +kernel
theorem dX4_roofAndNeighbours_24 : decode cX4_roofAndNeighbours 24 = .ok (.iload_n 3, 1) := by decide +kernel
theorem dX4_roofAndNeighbours_25 : decode cX4_roofAndNeighbours 25 = .ok (.ishl, 1) := by decide +kernel
theorem dX4_roofAndNeighbours_26 : decode cX4_roofAndNeighbours 26 = .ok (.ior, 1) := by decide +kernel
theorem dX4_roofAndNeighbours_27 : decode cX4_roofAndNeighbours 27 = .ok (.istore_n 1, 1) := by decide +kernel
theorem dX4_roofAndNeighbours_28 : decode cX4_roofAndNeighbours 28 = .ok (.iinc 2 1, 3) := by decide +kernel
theorem dX4_roofAndNeighbours_31 : decode cX4_roofAndNeighbours 31 = .ok (.goto (-25), 3) := by decide +kernel
theorem dX4_roofAndNeighbours_34 : decode cX4_roofAndNeighbours 34 = .ok (.iload_n 1, 1) := by decide +kernel
theorem dX4_roofAndNeighbours_35 : decode cX4_roofAndNeighbours 35 = .ok (.ireturn, 1) := by decide +kernel
theorem dX5_init_0 : decode cX5_init 0 = .ok (.aload_n 0, 1) := by decide +kernel
theorem dX5_init_1 : decode cX5_init 1 = .ok (.invokespecial 3, 3) := by decide +kernel
theorem dX5_init_4 : decode cX5_init 4 = .ok (.aload_n 0, 1) := by decide +kernel
theorem dX5_init_5 : decode cX5_init 5 = .ok (.bipush 16, 2) := by decide +kernel
theorem dX5_init_7 : decode cX5_init 7 = .ok (.newarray .int, 2) := by decide +kernel
theorem dX5_init_9 : decode cX5_init 9 = .ok (.putfield 9, 3) := by decide +kernel
theorem dX5_init_12 : decode cX5_init 12 = .ok (.aload_n 0, 1) := by decide +kernel
theorem dX5_init_13 : decode cX5_init 13 = .ok (.bipush 16, 2) := by decide +kernel
theorem dX5_init_15 : decode cX5_init 15 = .ok (.newarray .int, 2) := by decide +kernel
theorem dX5_init_17 : decode cX5_init 17 = .ok (.putfield 15, 3) := by decide +kernel
theorem dX5_init_20 : decode cX5_init 20 = .ok (.return_, 1) := by decide +kernel
theorem dX5_strongestByJoining_0 : decode cX5_strongestByJoining 0 = .ok (.iload_n 2, 1) := by decide +kernel
theorem dX5_strongestByJoining_1 : decode cX5_strongestByJoining 1 = .ok (.iload_n 3, 1) := by decide +kernel
theorem dX5_strongestByJoining_2 : decode cX5_strongestByJoining 2 = .ok (.if_icmp .ne 6, 3) := by decide +kernel
theorem dX5_strongestByJoining_5 : decode cX5_strongestByJoining 5 = .ok (.bipush 10, 2) := by decide +kernel
theorem dX5_strongestByJoining_7 : decode cX5_strongestByJoining 7 = .ok (.ireturn, 1) := by decide +kernel
theorem dX5_strongestByJoining_8 : decode cX5_strongestByJoining 8 = .ok (.iconst 0, 1) := by decide +kernel
theorem dX5_strongestByJoining_9 : decode cX5_strongestByJoining 9 = .ok (.istore 4, 2) := by decide +kernel
theorem dX5_strongestByJoining_11 : decode cX5_strongestByJoining 11 = .ok (.iload 4, 2) := by decide +kernel
theorem dX5_strongestByJoining_13 : decode cX5_strongestByJoining 13 = .ok (.bipush 16, 2) := by decide +kernel
theorem dX5_strongestByJoining_15 : decode cX5_strongestByJoining 15 = .ok (.if_icmp .ge 18, 3) := by decide +kernel
theorem dX5_strongestByJoining_18 : decode cX5_strongestByJoining 18 = .ok (.aload_n 0, 1) := by decide +kernel
theorem dX5_strongestByJoining_19 : decode cX5_strongestByJoining 19 = .ok (.getfield 9, 3) := by decide +kernel
theorem dX5_strongestByJoining_22 : decode cX5_strongestByJoining 22 = .ok (.iload 4, 2) := by decide +kernel
theorem dX5_strongestByJoining_24 : decode cX5_strongestByJoining 24 = .ok (.iload 4, 2) := by decide +kernel
theorem dX5_strongestByJoining_26 : decode cX5_strongestByJoining 26 = .ok (.iastore, 1) := by decide +kernel
theorem dX5_strongestByJoining_27 : decode cX5_strongestByJoining 27 = .ok (.iinc 4 1, 3) := by decide +kernel
theorem dX5_strongestByJoining_30 : decode cX5_strongestByJoining 30 = .ok (.goto (-19), 3) := by decide +kernel
theorem dX5_strongestByJoining_33 : decode cX5_strongestByJoining 33 = .ok (.bipush 9, 2) := by decide +kernel
theorem dX5_strongestByJoining_35 : decode cX5_strongestByJoining 35 = .ok (.istore 4, 2) := by decide +kernel
theorem dX5_strongestByJoining_37 : decode cX5_strongestByJoining 37 = .ok (.iload 4, 2) := by decide +kernel
theorem dX5_strongestByJoining_39 : decode cX5_strongestByJoining 39 = .ok (.ifCond .le 34, 3) := by decide +kernel
theorem dX5_strongestByJoining_42 : decode cX5_strongestByJoining 42 = .ok (.aload_n 0, 1) := by decide +kernel
theorem dX5_strongestByJoining_43 : decode cX5_strongestByJoining 43 = .ok (.aload_n 1, 1) := by decide +kernel
theorem dX5_strongestByJoining_44 : decode cX5_strongestByJoining 44 = .ok (.iload 4, 2) := by decide +kernel
theorem dX5_strongestByJoining_46 : decode cX5_strongestByJoining 46 = .ok (.invokevirtual 18, 3) := by decide +kernel
theorem dX5_strongestByJoining_49 : decode cX5_strongestByJoining 49 = .ok (.aload_n 0, 1) := by decide +kernel
theorem dX5_strongestByJoining_50 : decode cX5_strongestByJoining 50 = .ok (.getfield 9, 3) := by decide +kernel
theorem dX5_strongestByJoining_53 : decode cX5_strongestByJoining 53 = .ok (.iload_n 2, 1) := by decide +kernel
theorem dX5_strongestByJoining_54 : decode cX5_strongestByJoining 54 = .ok (.iaload, 1) := by decide +kernel
theorem dX5_strongestByJoining_55 : decode cX5_strongestByJoining 55 = .ok (.aload_n 0, 1) := by decide +kernel
theorem dX5_strongestByJoining_56 : decode cX5_strongestByJoining 56 = .ok (.getfield 9, 3) := by decide +kernel
theorem dX5_strongestByJoining_59 : decode cX5_strongestByJoining 59 = .ok (.iload_n 3, 1) := by decide +kernel
theorem dX5_strongestByJoining_60 : decode cX5_strongestByJoining 60 = .ok (.iaload, 1) := by decide +kernel
theorem dX5_strongestByJoining_61 : decode cX5_strongestByJoining 61 = .ok (.if_icmp .ne 6, 3) := by decide +kernel
theorem dX5_strongestByJoining_64 : decode cX5_strongestByJoining 64 = .ok (.iload 4, 2) := by decide +kernel
theorem dX5_strongestByJoining_66 : decode cX5_strongestByJoining 66 = .ok (.ireturn, 1) := by decide +kernel
theorem dX5_strongestByJoining_67 : decode cX5_strongestByJoining 67 = .ok (.iinc 4 (-1), 3) := by decide +kernel
theorem dX5_strongestByJoining_70 : decode cX5_strongestByJoining 70 = .ok (.goto (-33), 3) := by decide +kernel
theorem dX5_strongestByJoining_73 : decode cX5_strongestByJoining 73 = .ok (.bipush (-4), 2) := by decide +kernel
theorem dX5_strongestByJoining_75 : decode cX5_strongestByJoining 75 = .ok (.ireturn, 1) := by decide +kernel
theorem dX5_joinOver_0 : decode cX5_joinOver 0 = .ok (.iconst 0, 1) := by decide +kernel
theorem dX5_joinOver_1 : decode cX5_joinOver 1 = .ok (.istore_n 3, 1) := by decide +kernel
theorem dX5_joinOver_2 : decode cX5_joinOver 2 = .ok (.iload_n 3, 1) := by decide +kernel
theorem dX5_joinOver_3 : decode cX5_joinOver 3 = .ok (.bipush 28, 2) := by decide +kernel
theorem dX5_joinOver_5 : decode cX5_joinOver 5 = .ok (.if_icmp .ge 48, 3) := by decide +kernel
theorem dX5_joinOver_8 : decode cX5_joinOver 8 = .ok (.iload_n 3, 1) := by decide +kernel
theorem dX5_joinOver_9 : decode cX5_joinOver 9 = .ok (.invokestatic 22, 3) := by decide +kernel
theorem dX5_joinOver_12 : decode cX5_joinOver 12 = .ok (.ifCond .eq 35, 3) := by decide +kernel
theorem dX5_joinOver_15 : decode cX5_joinOver 15 = .ok (.aload_n 1, 1) := by decide +kernel
theorem dX5_joinOver_16 : decode cX5_joinOver 16 = .ok (.getfield 28, 3) := by decide +kernel
theorem dX5_joinOver_19 : decode cX5_joinOver 19 = .ok (.iload_n 3, 1) := by decide +kernel
theorem dX5_joinOver_20 : decode cX5_joinOver 20 = .ok (.iaload, 1) := by decide +kernel
theorem dX5_joinOver_21 : decode cX5_joinOver 21 = .ok (.iload_n 2, 1) := by decide +kernel
theorem dX5_joinOver_22 : decode cX5_joinOver 22 = .ok (.if_icmp .ne 25, 3) := by decide +kernel
theorem dX5_joinOver_25 : decode cX5_joinOver 25 = .ok (.aload_n 0, 1) := by decide +kernel
theorem dX5_joinOver_26 : decode cX5_joinOver 26 = .ok (.aload_n 0, 1) := by decide +kernel
theorem dX5_joinOver_27 : decode cX5_joinOver 27 = .ok (.getfield 9, 3) := by decide +kernel
theorem dX5_joinOver_30 : decode cX5_joinOver 30 = .ok (.iload_n 3, 1) := by decide +kernel
theorem dX5_joinOver_31 : decode cX5_joinOver 31 = .ok (.invokestatic 33, 3) := by decide +kernel
theorem dX5_joinOver_34 : decode cX5_joinOver 34 = .ok (.iaload, 1) := by decide +kernel
theorem dX5_joinOver_35 : decode cX5_joinOver 35 = .ok (.aload_n 0, 1) := by decide +kernel
theorem dX5_joinOver_36 : decode cX5_joinOver 36 = .ok (.getfield 9, 3) := by decide +kernel
theorem dX5_joinOver_39 : decode cX5_joinOver 39 = .ok (.iload_n 3, 1) := by decide +kernel
theorem dX5_joinOver_40 : decode cX5_joinOver 40 = .ok (.invokestatic 37, 3) := by decide +kernel
theorem dX5_joinOver_43 : decode cX5_joinOver 43 = .ok (.iaload, 1) := by decide +kernel
theorem dX5_joinOver_44 : decode cX5_joinOver 44 = .ok (.invokevirtual 40, 3) := by decide +kernel
theorem dX5_joinOver_47 : decode cX5_joinOver 47 = .ok (.iinc 3 1, 3) := by decide +kernel
theorem dX5_joinOver_50 : decode cX5_joinOver 50 = .ok (.goto (-48), 3) := by decide +kernel
theorem dX5_joinOver_53 : decode cX5_joinOver 53 = .ok (.return_, 1) := by decide +kernel
theorem dX5_rename_0 : decode cX5_rename 0 = .ok (.iconst 0, 1) := by decide +kernel
theorem dX5_rename_1 : decode cX5_rename 1 = .ok (.istore_n 3, 1) := by decide +kernel
theorem dX5_rename_2 : decode cX5_rename 2 = .ok (.iload_n 3, 1) := by decide +kernel
theorem dX5_rename_3 : decode cX5_rename 3 = .ok (.bipush 16, 2) := by decide +kernel
theorem dX5_rename_5 : decode cX5_rename 5 = .ok (.if_icmp .ge 26, 3) := by decide +kernel
theorem dX5_rename_8 : decode cX5_rename 8 = .ok (.aload_n 0, 1) := by decide +kernel
theorem dX5_rename_9 : decode cX5_rename 9 = .ok (.getfield 9, 3) := by decide +kernel
theorem dX5_rename_12 : decode cX5_rename 12 = .ok (.iload_n 3, 1) := by decide +kernel
theorem dX5_rename_13 : decode cX5_rename 13 = .ok (.iaload, 1) := by decide +kernel
theorem dX5_rename_14 : decode cX5_rename 14 = .ok (.iload_n 1, 1) := by decide +kernel
theorem dX5_rename_15 : decode cX5_rename 15 = .ok (.if_icmp .ne 10, 3) := by decide +kernel
theorem dX5_rename_18 : decode cX5_rename 18 = .ok (.aload_n 0, 1) := by decide +kernel
theorem dX5_rename_19 : decode cX5_rename 19 = .ok (.getfield 9, 3) := by decide +kernel
theorem dX5_rename_22 : decode cX5_rename 22 = .ok (.iload_n 3, 1) := by decide +kernel
theorem dX5_rename_23 : decode cX5_rename 23 = .ok (.iload_n 2, 1) := by decide +kernel
theorem dX5_rename_24 : decode cX5_rename 24 = .ok (.iastore, 1) := by decide +kernel
theorem dX5_rename_25 : decode cX5_rename 25 = .ok (.iinc 3 1, 3) := by decide +kernel
theorem dX5_rename_28 : decode cX5_rename 28 = .ok (.goto (-26), 3) := by decide +kernel
theorem dX5_rename_31 : decode cX5_rename 31 = .ok (.return_, 1) := by decide +kernel
theorem dX5_strongestBySpreading_0 : decode cX5_strongestBySpreading 0 = .ok (.aload_n 0, 1) := by decide +kernel
theorem dX5_strongestBySpreading_1 : decode cX5_strongestBySpreading 1 = .ok (.getfield 15, 3) := by decide +kernel
theorem dX5_strongestBySpreading_4 : decode cX5_strongestBySpreading 4 = .ok (.iconst 0, 1) := by decide +kernel
theorem dX5_strongestBySpreading_5 : decode cX5_strongestBySpreading 5 = .ok (.invokestatic 44, 3) := by decide +kernel
theorem dX5_strongestBySpreading_8 : decode cX5_strongestBySpreading 8 = .ok (.aload_n 0, 1) := by decide +kernel
theorem dX5_strongestBySpreading_9 : decode cX5_strongestBySpreading 9 = .ok (.getfield 15, 3) := by decide +kernel
theorem dX5_strongestBySpreading_12 : decode cX5_strongestBySpreading 12 = .ok (.iload_n 2, 1) := by decide +kernel
theorem dX5_strongestBySpreading_13 : decode cX5_strongestBySpreading 13 = .ok (.bipush 10, 2) := by decide +kernel
theorem dX5_strongestBySpreading_15 : decode cX5_strongestBySpreading 15 = .ok (.iastore, 1) := by decide +kernel
theorem dX5_strongestBySpreading_16 : decode cX5_strongestBySpreading 16 = .ok (.iconst 1, 1) := by decide +kernel
theorem dX5_strongestBySpreading_17 : decode cX5_strongestBySpreading 17 = .ok (.istore 4, 2) := by decide +kernel
theorem dX5_strongestBySpreading_19 : decode cX5_strongestBySpreading 19 = .ok (.iconst 0, 1) := by decide +kernel
theorem dX5_strongestBySpreading_20 : decode cX5_strongestBySpreading 20 = .ok (.istore 5, 2) := by decide +kernel
theorem dX5_strongestBySpreading_22 : decode cX5_strongestBySpreading 22 = .ok (.iload 5, 2) := by decide +kernel
theorem dX5_strongestBySpreading_24 : decode cX5_strongestBySpreading 24 = .ok (.bipush 16, 2) := by decide +kernel
theorem dX5_strongestBySpreading_26 : decode cX5_strongestBySpreading 26 = .ok (.if_icmp .ge 21, 3) := by decide +kernel
theorem dX5_strongestBySpreading_29 : decode cX5_strongestBySpreading 29 = .ok (.iload 4, 2) := by decide +kernel
theorem dX5_strongestBySpreading_31 : decode cX5_strongestBySpreading 31 = .ok (.ifCond .eq 16, 3) := by decide +kernel
theorem dX5_strongestBySpreading_34 : decode cX5_strongestBySpreading 34 = .ok (.aload_n 0, 1) := by decide +kernel
theorem dX5_strongestBySpreading_35 : decode cX5_strongestBySpreading 35 = .ok (.aload_n 1, 1) := by decide +kernel
theorem dX5_strongestBySpreading_36 : decode cX5_strongestBySpreading 36 = .ok (.invokevirtual 50, 3) := by decide +kernel
theorem dX5_strongestBySpreading_39 : decode cX5_strongestBySpreading 39 = .ok (.istore 4, 2) := by decide +kernel
theorem dX5_strongestBySpreading_41 : decode cX5_strongestBySpreading 41 = .ok (.iinc 5 1, 3) := by decide +kernel
theorem dX5_strongestBySpreading_44 : decode cX5_strongestBySpreading 44 = .ok (.goto (-22), 3) := by decide +kernel
theorem dX5_strongestBySpreading_47 : decode cX5_strongestBySpreading 47 = .ok (.aload_n 0, 1) := by decide +kernel
theorem dX5_strongestBySpreading_48 : decode cX5_strongestBySpreading 48 = .ok (.getfield 15, 3) := by decide +kernel
theorem dX5_strongestBySpreading_51 : decode cX5_strongestBySpreading 51 = .ok (.iload_n 3, 1) := by decide +kernel
theorem dX5_strongestBySpreading_52 : decode cX5_strongestBySpreading 52 = .ok (.iaload, 1) := by decide +kernel
theorem dX5_strongestBySpreading_53 : decode cX5_strongestBySpreading 53 = .ok (.ifCond .le 12, 3) := by decide +kernel
theorem dX5_strongestBySpreading_56 : decode cX5_strongestBySpreading 56 = .ok (.aload_n 0, 1) := by decide +kernel
theorem dX5_strongestBySpreading_57 : decode cX5_strongestBySpreading 57 = .ok (.getfield 15, 3) := by decide +kernel
theorem dX5_strongestBySpreading_60 : decode cX5_strongestBySpreading 60 = .ok (.iload_n 3, 1) := by decide +kernel
theorem dX5_strongestBySpreading_61 : decode cX5_strongestBySpreading 61 = .ok (.iaload, 1) := by decide +kernel
theorem dX5_strongestBySpreading_62 : decode cX5_strongestBySpreading 62 = .ok (.goto 5, 3) := by decide +kernel
theorem dX5_strongestBySpreading_65 : decode cX5_strongestBySpreading 65 = .ok (.bipush (-4), 2) := by decide +kernel
theorem dX5_strongestBySpreading_67 : decode cX5_strongestBySpreading 67 = .ok (.ireturn, 1) := by decide +kernel
theorem dX5_spread_0 : decode cX5_spread 0 = .ok (.iconst 0, 1) := by decide +kernel
theorem dX5_spread_1 : decode cX5_spread 1 = .ok (.istore_n 2, 1) := by decide +kernel
theorem dX5_spread_2 : decode cX5_spread 2 = .ok (.iconst 0, 1) := by decide +kernel
theorem dX5_spread_3 : decode cX5_spread 3 = .ok (.istore_n 3, 1) := by decide +kernel
theorem dX5_spread_4 : decode cX5_spread 4 = .ok (.iload_n 3, 1) := by decide +kernel
theorem dX5_spread_5 : decode cX5_spread 5 = .ok (.bipush 28, 2) := by decide +kernel
theorem dX5_spread_7 : decode cX5_spread 7 = .ok (.if_icmp .ge 96, 3) := by decide +kernel
theorem dX5_spread_10 : decode cX5_spread 10 = .ok (.iload_n 3, 1) := by decide +kernel
theorem dX5_spread_11 : decode cX5_spread 11 = .ok (.invokestatic 22, 3) := by decide +kernel
theorem dX5_spread_14 : decode cX5_spread 14 = .ok (.ifCond .eq 83, 3) := by decide +kernel
theorem dX5_spread_17 : decode cX5_spread 17 = .ok (.iload_n 3, 1) := by decide +kernel
theorem dX5_spread_18 : decode cX5_spread 18 = .ok (.invokestatic 37, 3) := by decide +kernel
theorem dX5_spread_21 : decode cX5_spread 21 = .ok (.istore 4, 2) := by decide +kernel
theorem dX5_spread_23 : decode cX5_spread 23 = .ok (.iload_n 3, 1) := by decide +kernel
theorem dX5_spread_24 : decode cX5_spread 24 = .ok (.invokestatic 33, 3) := by decide +kernel
theorem dX5_spread_27 : decode cX5_spread 27 = .ok (.istore 5, 2) := by decide +kernel
theorem dX5_spread_29 : decode cX5_spread 29 = .ok (.aload_n 0, 1) := by decide +kernel
theorem dX5_spread_30 : decode cX5_spread 30 = .ok (.iload 5, 2) := by decide +kernel
theorem dX5_spread_32 : decode cX5_spread 32 = .ok (.aload_n 0, 1) := by decide +kernel
theorem dX5_spread_33 : decode cX5_spread 33 = .ok (.getfield 15, 3) := by decide +kernel
theorem dX5_spread_36 : decode cX5_spread 36 = .ok (.iload 4, 2) := by decide +kernel
theorem dX5_spread_38 : decode cX5_spread 38 = .ok (.iaload, 1) := by decide +kernel
theorem dX5_spread_39 : decode cX5_spread 39 = .ok (.aload_n 1, 1) := by decide +kernel
theorem dX5_spread_40 : decode cX5_spread 40 = .ok (.getfield 28, 3) := by decide +kernel
theorem dX5_spread_43 : decode cX5_spread 43 = .ok (.iload_n 3, 1) := by decide +kernel
theorem dX5_spread_44 : decode cX5_spread 44 = .ok (.iaload, 1) := by decide +kernel
theorem dX5_spread_45 : decode cX5_spread 45 = .ok (.invokestatic 54, 3) := by decide +kernel
theorem dX5_spread_48 : decode cX5_spread 48 = .ok (.invokevirtual 60, 3) := by decide +kernel
theorem dX5_spread_51 : decode cX5_spread 51 = .ok (.istore 6, 2) := by decide +kernel
theorem dX5_spread_53 : decode cX5_spread 53 = .ok (.aload_n 0, 1) := by decide +kernel
theorem dX5_spread_54 : decode cX5_spread 54 = .ok (.iload 4, 2) := by decide +kernel
theorem dX5_spread_56 : decode cX5_spread 56 = .ok (.aload_n 0, 1) := by decide +kernel
theorem dX5_spread_57 : decode cX5_spread 57 = .ok (.getfield 15, 3) := by decide +kernel
theorem dX5_spread_60 : decode cX5_spread 60 = .ok (.iload 5, 2) := by decide +kernel
theorem dX5_spread_62 : decode cX5_spread 62 = .ok (.iaload, 1) := by decide +kernel
theorem dX5_spread_63 : decode cX5_spread 63 = .ok (.aload_n 1, 1) := by decide +kernel
theorem dX5_spread_64 : decode cX5_spread 64 = .ok (.getfield 28, 3) := by decide +kernel
theorem dX5_spread_67 : decode cX5_spread 67 = .ok (.iload_n 3, 1) := by decide +kernel
theorem dX5_spread_68 : decode cX5_spread 68 = .ok (.iaload, 1) := by decide +kernel
theorem dX5_spread_69 : decode cX5_spread 69 = .ok (.invokestatic 54, 3) := by decide +kernel
theorem dX5_spread_72 : decode cX5_spread 72 = .ok (.invokevirtual 60, 3) := by decide +kernel
theorem dX5_spread_75 : decode cX5_spread 75 = .ok (.istore 7, 2) := by decide +kernel
theorem dX5_spread_77 : decode cX5_spread 77 = .ok (.iload_n 2, 1) := by decide +kernel
theorem dX5_spread_78 : decode cX5_spread 78 = .ok (.ifCond .ne 13, 3) := by decide +kernel
theorem dX5_spread_81 : decode cX5_spread 81 = .ok (.iload 6, 2) := by decide +kernel
theorem dX5_spread_83 : decode cX5_spread 83 = .ok (.ifCond .ne 8, 3) := by decide +kernel
theorem dX5_spread_86 : decode cX5_spread 86 = .ok (.iload 7, 2) := by decide +kernel
theorem dX5_spread_88 : decode cX5_spread 88 = .ok (.ifCond .eq 7, 3) := by decide +kernel
theorem dX5_spread_91 : decode cX5_spread 91 = .ok (.iconst 1, 1) := by decide +kernel
theorem dX5_spread_92 : decode cX5_spread 92 = .ok (.goto 4, 3) := by decide +kernel
theorem dX5_spread_95 : decode cX5_spread 95 = .ok (.iconst 0, 1) := by decide +kernel
theorem dX5_spread_96 : decode cX5_spread 96 = .ok (.istore_n 2, 1) := by decide +kernel
theorem dX5_spread_97 : decode cX5_spread 97 = .ok (.iinc 3 1, 3) := by decide +kernel
theorem dX5_spread_100 : decode cX5_spread 100 = .ok (.goto (-96), 3) := by decide +kernel
theorem dX5_spread_103 : decode cX5_spread 103 = .ok (.iload_n 2, 1) := by decide +kernel
theorem dX5_spread_104 : decode cX5_spread 104 = .ok (.ireturn, 1) := by decide +kernel
theorem dX5_raise_0 : decode cX5_raise 0 = .ok (.iload_n 2, 1) := by decide +kernel
theorem dX5_raise_1 : decode cX5_raise 1 = .ok (.aload_n 0, 1) := by decide +kernel
theorem dX5_raise_2 : decode cX5_raise 2 = .ok (.getfield 15, 3) := by decide +kernel
theorem dX5_raise_5 : decode cX5_raise 5 = .ok (.iload_n 1, 1) := by decide +kernel
theorem dX5_raise_6 : decode cX5_raise 6 = .ok (.iaload, 1) := by decide +kernel
theorem dX5_raise_7 : decode cX5_raise 7 = .ok (.if_icmp .gt 5, 3) := by decide +kernel
theorem dX5_raise_10 : decode cX5_raise 10 = .ok (.iconst 0, 1) := by decide +kernel
theorem dX5_raise_11 : decode cX5_raise 11 = .ok (.ireturn, 1) := by decide +kernel
theorem dX5_raise_12 : decode cX5_raise 12 = .ok (.aload_n 0, 1) := by decide +kernel
theorem dX5_raise_13 : decode cX5_raise 13 = .ok (.getfield 15, 3) := by decide +kernel
theorem dX5_raise_16 : decode cX5_raise 16 = .ok (.iload_n 1, 1) := by decide +kernel
theorem dX5_raise_17 : decode cX5_raise 17 = .ok (.iload_n 2, 1) := by decide +kernel
theorem dX5_raise_18 : decode cX5_raise 18 = .ok (.iastore, 1) := by decide +kernel
theorem dX5_raise_19 : decode cX5_raise 19 = .ok (.iconst 1, 1) := by decide +kernel
theorem dX5_raise_20 : decode cX5_raise 20 = .ok (.ireturn, 1) := by decide +kernel
theorem dX5_roofsFrom_0 : decode cX5_roofsFrom 0 = .ok (.iconst 1, 1) := by decide +kernel
theorem dX5_roofsFrom_1 : decode cX5_roofsFrom 1 = .ok (.iload_n 2, 1) := by decide +kernel
theorem dX5_roofsFrom_2 : decode cX5_roofsFrom 2 = .ok (.ishl, 1) := by decide +kernel
theorem dX5_roofsFrom_3 : decode cX5_roofsFrom 3 = .ok (.istore_n 3, 1) := by decide +kernel
theorem dX5_roofsFrom_4 : decode cX5_roofsFrom 4 = .ok (.iconst 0, 1) := by decide +kernel
theorem dX5_roofsFrom_5 : decode cX5_roofsFrom 5 = .ok (.istore 4, 2) := by decide +kernel
theorem dX5_roofsFrom_7 : decode cX5_roofsFrom 7 = .ok (.iload 4, 2) := by decide +kernel
theorem dX5_roofsFrom_9 : decode cX5_roofsFrom 9 = .ok (.bipush 16, 2) := by decide +kernel
theorem dX5_roofsFrom_11 : decode cX5_roofsFrom 11 = .ok (.if_icmp .ge 53, 3) := by decide +kernel
theorem dX5_roofsFrom_14 : decode cX5_roofsFrom 14 = .ok (.iconst 0, 1) := by decide +kernel
theorem dX5_roofsFrom_15 : decode cX5_roofsFrom 15 = .ok (.istore 5, 2) := by decide +kernel
theorem dX5_roofsFrom_17 : decode cX5_roofsFrom 17 = .ok (.iload 5, 2) := by decide +kernel
theorem dX5_roofsFrom_19 : decode cX5_roofsFrom 19 = .ok (.bipush 28, 2) := by decide +kernel
theorem dX5_roofsFrom_21 : decode cX5_roofsFrom 21 = .ok (.if_icmp .ge 37, 3) := by decide +kernel
theorem dX5_roofsFrom_24 : decode cX5_roofsFrom 24 = .ok (.iload 5, 2) := by decide +kernel
theorem dX5_roofsFrom_26 : decode cX5_roofsFrom 26 = .ok (.invokestatic 64, 3) := by decide +kernel
theorem dX5_roofsFrom_29 : decode cX5_roofsFrom 29 = .ok (.istore 6, 2) := by decide +kernel
theorem dX5_roofsFrom_31 : decode cX5_roofsFrom 31 = .ok (.aload_n 1, 1) := by decide +kernel
theorem dX5_roofsFrom_32 : decode cX5_roofsFrom 32 = .ok (.iload 5, 2) := by decide +kernel
theorem dX5_roofsFrom_34 : decode cX5_roofsFrom 34 = .ok (.invokevirtual 67, 3) := by decide +kernel
theorem dX5_roofsFrom_37 : decode cX5_roofsFrom 37 = .ok (.ifCond .eq 15, 3) := by decide +kernel
theorem dX5_roofsFrom_40 : decode cX5_roofsFrom 40 = .ok (.iload_n 3, 1) := by decide +kernel
theorem dX5_roofsFrom_41 : decode cX5_roofsFrom 41 = .ok (.iload 6, 2) := by decide +kernel
theorem dX5_roofsFrom_43 : decode cX5_roofsFrom 43 = .ok (.iand, 1) := by decide +kernel
theorem dX5_roofsFrom_44 : decode cX5_roofsFrom 44 = .ok (.ifCond .eq 8, 3) := by decide +kernel
theorem dX5_roofsFrom_47 : decode cX5_roofsFrom 47 = .ok (.iload_n 3, 1) := by decide +kernel
theorem dX5_roofsFrom_48 : decode cX5_roofsFrom 48 = .ok (.iload 6, 2) := by decide +kernel
theorem dX5_roofsFrom_50 : decode cX5_roofsFrom 50 = .ok (.ior, 1) := by decide +kernel
theorem dX5_roofsFrom_51 : decode cX5_roofsFrom 51 = .ok (.istore_n 3, 1) := by decide +kernel
theorem dX5_roofsFrom_52 : decode cX5_roofsFrom 52 = .ok (.iinc 5 1, 3) := by decide +kernel
theorem dX5_roofsFrom_55 : decode cX5_roofsFrom 55 = .ok (.goto (-38), 3) := by decide +kernel
theorem dX5_roofsFrom_58 : decode cX5_roofsFrom 58 = .ok (.iinc 4 1, 3) := by decide +kernel
theorem dX5_roofsFrom_61 : decode cX5_roofsFrom 61 = .ok (.goto (-54), 3) := by decide +kernel
theorem dX5_roofsFrom_64 : decode cX5_roofsFrom 64 = .ok (.iload_n 3, 1) := by decide +kernel
theorem dX5_roofsFrom_65 : decode cX5_roofsFrom 65 = .ok (.ireturn, 1) := by decide +kernel
theorem dX5_fewestWalks_0 : decode cX5_fewestWalks 0 = .ok (.iconst 1, 1) := by decide +kernel
theorem dX5_fewestWalks_1 : decode cX5_fewestWalks 1 = .ok (.aload_n 1, 1) := by decide +kernel
theorem dX5_fewestWalks_2 : decode cX5_fewestWalks 2 = .ok (.getfield 70, 3) := by decide +kernel
theorem dX5_fewestWalks_5 : decode cX5_fewestWalks 5 = .ok (.iload_n 2, 1) := by decide +kernel
theorem dX5_fewestWalks_6 : decode cX5_fewestWalks 6 = .ok (.iaload, 1) := by decide +kernel
theorem dX5_fewestWalks_7 : decode cX5_fewestWalks 7 = .ok (.ishl, 1) := by decide +kernel
theorem dX5_fewestWalks_8 : decode cX5_fewestWalks 8 = .ok (.istore 4, 2) := by decide +kernel
theorem dX5_fewestWalks_10 : decode cX5_fewestWalks 10 = .ok (.iconst 0, 1) := by decide +kernel
theorem dX5_fewestWalks_11 : decode cX5_fewestWalks 11 = .ok (.istore 5, 2) := by decide +kernel
theorem dX5_fewestWalks_13 : decode cX5_fewestWalks 13 = .ok (.iload 5, 2) := by decide +kernel
theorem dX5_fewestWalks_15 : decode cX5_fewestWalks 15 = .ok (.bipush 16, 2) := by decide +kernel
theorem dX5_fewestWalks_17 : decode cX5_fewestWalks 17 = .ok (.if_icmp .ge 31, 3) := by decide +kernel
theorem dX5_fewestWalks_20 : decode cX5_fewestWalks 20 = .ok (.iload 4, 2) := by decide +kernel
theorem dX5_fewestWalks_22 : decode cX5_fewestWalks 22 = .ok (.iload_n 3, 1) := by decide +kernel
theorem dX5_fewestWalks_23 : decode cX5_fewestWalks 23 = .ok (.invokestatic 73, 3) := by decide +kernel
theorem dX5_fewestWalks_26 : decode cX5_fewestWalks 26 = .ok (.ifCond .eq 6, 3) := by decide +kernel
theorem dX5_fewestWalks_29 : decode cX5_fewestWalks 29 = .ok (.iload 5, 2) := by decide +kernel
theorem dX5_fewestWalks_31 : decode cX5_fewestWalks 31 = .ok (.ireturn, 1) := by decide +kernel
theorem dX5_fewestWalks_32 : decode cX5_fewestWalks 32 = .ok (.aload_n 0, 1) := by decide +kernel
theorem dX5_fewestWalks_33 : decode cX5_fewestWalks 33 = .ok (.aload_n 1, 1) := by decide +kernel
theorem dX5_fewestWalks_34 : decode cX5_fewestWalks 34 = .ok (.iload_n 2, 1) := by decide +kernel
theorem dX5_fewestWalks_35 : decode cX5_fewestWalks 35 = .ok (.iload 4, 2) := by decide +kernel
theorem dX5_fewestWalks_37 : decode cX5_fewestWalks 37 = .ok (.invokevirtual 76, 3) := by decide +kernel
theorem dX5_fewestWalks_40 : decode cX5_fewestWalks 40 = .ok (.istore 4, 2) := by decide +kernel
theorem dX5_fewestWalks_42 : decode cX5_fewestWalks 42 = .ok (.iinc 5 1, 3) := by decide +kernel
theorem dX5_fewestWalks_45 : decode cX5_fewestWalks 45 = .ok (.goto (-32), 3) := by decide +kernel
theorem dX5_fewestWalks_48 : decode cX5_fewestWalks 48 = .ok (.bipush (-4), 2) := by decide +kernel
theorem dX5_fewestWalks_50 : decode cX5_fewestWalks 50 = .ok (.ireturn, 1) := by decide +kernel
theorem dX5_oneWalkFurther_0 : decode cX5_oneWalkFurther 0 = .ok (.iload_n 3, 1) := by decide +kernel
theorem dX5_oneWalkFurther_1 : decode cX5_oneWalkFurther 1 = .ok (.istore 4, 2) := by decide +kernel
theorem dX5_oneWalkFurther_3 : decode cX5_oneWalkFurther 3 = .ok (.iconst 0, 1) := by decide +kernel
theorem dX5_oneWalkFurther_4 : decode cX5_oneWalkFurther 4 = .ok (.istore 5, 2) := by decide +kernel
theorem dX5_oneWalkFurther_6 : decode cX5_oneWalkFurther 6 = .ok (.iload 5, 2) := by decide +kernel
theorem dX5_oneWalkFurther_8 : decode cX5_oneWalkFurther 8 = .ok (.bipush 28, 2) := by decide +kernel
theorem dX5_oneWalkFurther_10 : decode cX5_oneWalkFurther 10 = .ok (.if_icmp .ge 83, 3) := by decide +kernel
theorem dX5_oneWalkFurther_13 : decode cX5_oneWalkFurther 13 = .ok (.iload 5, 2) := by decide +kernel
theorem dX5_oneWalkFurther_15 : decode cX5_oneWalkFurther 15 = .ok (.invokestatic 37, 3) := by decide +kernel
theorem dX5_oneWalkFurther_18 : decode cX5_oneWalkFurther 18 = .ok (.istore 6, 2) := by decide +kernel
theorem dX5_oneWalkFurther_20 : decode cX5_oneWalkFurther 20 = .ok (.iload 5, 2) := by decide +kernel
theorem dX5_oneWalkFurther_22 : decode cX5_oneWalkFurther 22 = .ok (.invokestatic 33, 3) := by decide +kernel
theorem dX5_oneWalkFurther_25 : decode cX5_oneWalkFurther 25 = .ok (.istore 7, 2) := by decide +kernel
theorem dX5_oneWalkFurther_27 : decode cX5_oneWalkFurther 27 = .ok (.iload_n 3, 1) := by decide +kernel
theorem dX5_oneWalkFurther_28 : decode cX5_oneWalkFurther 28 = .ok (.iload 6, 2) := by decide +kernel
theorem dX5_oneWalkFurther_30 : decode cX5_oneWalkFurther 30 = .ok (.invokestatic 73, 3) := by decide +kernel
theorem dX5_oneWalkFurther_33 : decode cX5_oneWalkFurther 33 = .ok (.ifCond .eq 24, 3) := by decide +kernel
theorem dX5_oneWalkFurther_36 : decode cX5_oneWalkFurther 36 = .ok (.aload_n 1, 1) := by decide +kernel
theorem dX5_oneWalkFurther_37 : decode cX5_oneWalkFurther 37 = .ok (.iload_n 2, 1) := by decide +kernel
theorem dX5_oneWalkFurther_38 : decode cX5_oneWalkFurther 38 = .ok (.iload 5, 2) := by decide +kernel
theorem dX5_oneWalkFurther_40 : decode cX5_oneWalkFurther 40 = .ok (.iload 7, 2) := by decide +kernel
theorem dX5_oneWalkFurther_42 : decode cX5_oneWalkFurther 42 = .ok (.invokevirtual 80, 3) := by decide +kernel
theorem dX5_oneWalkFurther_45 : decode cX5_oneWalkFurther 45 = .ok (.ifCond .ne 12, 3) := by decide +kernel
theorem dX5_oneWalkFurther_48 : decode cX5_oneWalkFurther 48 = .ok (.iload 4, 2) := by decide +kernel
theorem dX5_oneWalkFurther_50 : decode cX5_oneWalkFurther 50 = .ok (.iconst 1, 1) := by decide +kernel
theorem dX5_oneWalkFurther_51 : decode cX5_oneWalkFurther 51 = .ok (.iload 7, 2) := by decide +kernel
theorem dX5_oneWalkFurther_53 : decode cX5_oneWalkFurther 53 = .ok (.ishl, 1) := by decide +kernel
theorem dX5_oneWalkFurther_54 : decode cX5_oneWalkFurther 54 = .ok (.ior, 1) := by decide +kernel
theorem dX5_oneWalkFurther_55 : decode cX5_oneWalkFurther 55 = .ok (.istore 4, 2) := by decide +kernel
theorem dX5_oneWalkFurther_57 : decode cX5_oneWalkFurther 57 = .ok (.iload_n 3, 1) := by decide +kernel
theorem dX5_oneWalkFurther_58 : decode cX5_oneWalkFurther 58 = .ok (.iload 7, 2) := by decide +kernel
theorem dX5_oneWalkFurther_60 : decode cX5_oneWalkFurther 60 = .ok (.invokestatic 73, 3) := by decide +kernel
theorem dX5_oneWalkFurther_63 : decode cX5_oneWalkFurther 63 = .ok (.ifCond .eq 24, 3) := by decide +kernel
theorem dX5_oneWalkFurther_66 : decode cX5_oneWalkFurther 66 = .ok (.aload_n 1, 1) := by decide +kernel
theorem dX5_oneWalkFurther_67 : decode cX5_oneWalkFurther 67 = .ok (.iload_n 2, 1) := by decide +kernel
theorem dX5_oneWalkFurther_68 : decode cX5_oneWalkFurther 68 = .ok (.iload 5, 2) := by decide +kernel
theorem dX5_oneWalkFurther_70 : decode cX5_oneWalkFurther 70 = .ok (.iload 6, 2) := by decide +kernel
theorem dX5_oneWalkFurther_72 : decode cX5_oneWalkFurther 72 = .ok (.invokevirtual 80, 3) := by decide +kernel
theorem dX5_oneWalkFurther_75 : decode cX5_oneWalkFurther 75 = .ok (.ifCond .ne 12, 3) := by decide +kernel
theorem dX5_oneWalkFurther_78 : decode cX5_oneWalkFurther 78 = .ok (.iload 4, 2) := by decide +kernel
theorem dX5_oneWalkFurther_80 : decode cX5_oneWalkFurther 80 = .ok (.iconst 1, 1) := by decide +kernel
theorem dX5_oneWalkFurther_81 : decode cX5_oneWalkFurther 81 = .ok (.iload 6, 2) := by decide +kernel
theorem dX5_oneWalkFurther_83 : decode cX5_oneWalkFurther 83 = .ok (.ishl, 1) := by decide +kernel
theorem dX5_oneWalkFurther_84 : decode cX5_oneWalkFurther 84 = .ok (.ior, 1) := by decide +kernel
theorem dX5_oneWalkFurther_85 : decode cX5_oneWalkFurther 85 = .ok (.istore 4, 2) := by decide +kernel
theorem dX5_oneWalkFurther_87 : decode cX5_oneWalkFurther 87 = .ok (.iinc 5 1, 3) := by decide +kernel
theorem dX5_oneWalkFurther_90 : decode cX5_oneWalkFurther 90 = .ok (.goto (-84), 3) := by decide +kernel
theorem dX5_oneWalkFurther_93 : decode cX5_oneWalkFurther 93 = .ok (.iload 4, 2) := by decide +kernel
theorem dX5_oneWalkFurther_95 : decode cX5_oneWalkFurther 95 = .ok (.ireturn, 1) := by decide +kernel
end
section
/-! ===== my own library: nest words, the two kinds of contract (read only: RO; one that writes: MU), their calls ===== -/
abbrev tyL (cyC cyI cyO : ClassId) : List (ClassId × FieldType) := [(cyC, .char), (cyI, .int), (cyO, .object "RoofOrdinances$City")]
def NK (U : State) : Prop := va_Nw (.methodLinkNest RX0 92 yX6_isIn RX6) U ∧ va_Nw (.methodLinkNest RX4 9 yX6_isWithin RX6) U ∧ va_Nw (.methodLinkNest RX4 29 yX6_isIn RX6) U ∧ va_Nw (.methodLinkNest RX3 19 yX6_isWithin RX6) U ∧ va_Nw (.methodLinkNest RX2 60 yX6_isOwner RX6) U ∧ va_Nw (.methodLinkNest RX2 76 yX6_isRoof RX6) U ∧ va_Nw (.methodLinkNest RX5 73 yX6_isIn RX6) U ∧ va_Nw (.methodLinkNest RX6 31 yX5_init RX6) U ∧ va_Nw (.methodLinkNest RX6 38 yX3_init RX6) U
theorem NK.warm {s U : State} (hW : s.WarmedH U.vm) (h : NK s) : NK U := by
  obtain ⟨h1, h2, h3, h4, h5, h6, h7, h8, h9⟩ := h
  exact ⟨h1.warmM hW, h2.warmM hW, h3.warmM hW, h4.warmM hW, h5.warmM hW, h6.warmM hW, h7.warmM hW, h8.warmM hW, h9.warmM hW⟩
theorem NK.same {u U : State} (hv : u.vm = U.vm) (h : NK u) : NK U := by
  obtain ⟨h1, h2, h3, h4, h5, h6, h7, h8, h9⟩ := h
  exact ⟨h1.same rfl hv, h2.same rfl hv, h3.same rfl hv, h4.same rfl hv, h5.same rfl hv, h6.same rfl hv, h7.same rfl hv, h8.same rfl hv, h9.same rfl hv⟩
def KK (D : va_G) (cyC cyI cyO : ClassId) (U : State) : Prop := va_K D vwCl (tyL cyC cyI cyO) U ∧ NK U
theorem KK.warm {D : va_G} {cyC cyI cyO : ClassId} {s U : State} (hW : s.WarmedH U.vm) (h : KK D cyC cyI cyO s) : KK D cyC cyI cyO U := ⟨va_K.moved hW.alike h.1, h.2.warm hW⟩
theorem KK.calling {D : va_G} {cyC cyI cyO : ClassId} {U : State} {g : JFrame} {mk : MethodId} {a : Array Value} (h : KK D cyC cyI cyO U) : KK D cyC cyI cyO (U.calling g mk a) := ⟨va_K.moved (u := U) (U := U.calling g mk a) (Vm.Alike.refl U.vm) h.1, h.2.same rfl⟩
/-- the start of a method: its world, the tables -/
abbrev RP (D : va_G) (cyC cyI cyO : ClassId) (WS : va_W) : State → Prop := fun U => va_P D vwCl WS U.heap ∧ KK D cyC cyI cyO U
abbrev MP (D : va_G) (cyC cyI cyO : ClassId) (WS : va_W) (sz : Nat) : State → Prop := fun U => U.heap.size = sz ∧ va_P D vwCl WS U.heap ∧ KK D cyC cyI cyO U ∧ va_D (fun _ => True) WS
/-- read only: the answer r, nothing changed -/
abbrev Ty (y : MethodName) (bytes : ByteArray) (maxL : Nat) (ret : Option FieldType) : List Cond := Cond.code y bytes maxL ret :: TB
abbrev BV (C : String) (y : MethodName) (bytes : ByteArray) (maxL : Nat) (ret : Option FieldType) (n : Nat) : Prop := Cond.code y bytes maxL ret ∈ TB ∧ Cond.instanceMethod y ∈ TB ∧ Cond.selects C y y ∈ TB ∧ Cond.initialized C ∈ TB ∧ (y.cls = C ∧ y.cls ≠ "java/lang/invoke/MethodHandle" ∧ y.cls ≠ "java/lang/invoke/VarHandle" ∧ (parseMethodDescriptor y.desc).map (fun d => d.parameters.length) = some n)
abbrev BS (y : MethodName) (bytes : ByteArray) (maxL : Nat) (ret : Option FieldType) (n : Nat) : Prop := Cond.code y bytes maxL ret ∈ TB ∧ Cond.static y ∈ TB ∧ Cond.initialized y.cls ∈ TB ∧ (y.cls ≠ "java/lang/invoke/MethodHandle" ∧ y.cls ≠ "java/lang/invoke/VarHandle" ∧ (parseMethodDescriptor y.desc).map (fun d => d.parameters.length) = some n)
theorem TyGood {y : MethodName} {bytes : ByteArray} {maxL : Nat} {ret : Option FieldType} (hc : Cond.code y bytes maxL ret ∈ TB) : GoodIn TB (Ty y bytes maxL ret) := fun w h => by
  rcases List.mem_cons.mp h with h | h
  · subst h
    exact ⟨hc, TB_good hc⟩
  · exact ⟨h, TB_good h⟩
theorem good4 {w1 w2 w3 w4 : Cond} {ws : List Cond} (h1 : w1 ∈ TB) (h2 : w2 ∈ TB) (h3 : w3 ∈ TB) (h4 : w4 ∈ TB) (h : GoodIn TB ws) : GoodIn TB ([w1, w2, w3, w4] ++ ws) := fun w hw => by
  rcases List.mem_append.mp hw with q | q
  · have q2 : w ∈ TB := by
      simp only [List.mem_cons, List.not_mem_nil, or_false] at q
      rcases q with q | q | q | q <;> subst q <;> assumption
    exact ⟨q2, TB_good q2⟩
  · exact h w q
theorem good3 {w1 w2 w3 : Cond} {ws : List Cond} (h1 : w1 ∈ TB) (h2 : w2 ∈ TB) (h3 : w3 ∈ TB) (h : GoodIn TB ws) : GoodIn TB ([w1, w2, w3] ++ ws) := fun w hw => by
  rcases List.mem_append.mp hw with q | q
  · have q2 : w ∈ TB := by
      simp only [List.mem_cons, List.not_mem_nil, or_false] at q
      rcases q with q | q | q <;> subst q <;> assumption
    exact ⟨q2, TB_good q2⟩
  · exact h w q
abbrev RO (l : Launch) (y : MethodName) (ws : List Cond) (rm : Room) (D : va_G) (cyC cyI cyO : ClassId) (WS : va_W) (av : List Value) (r : Int32) : Prop := Met l y ws rm (va_Pc av (RP D cyC cyI cyO WS)) (vp_Si (fun x => x = r)) 0 0 (fun _ => False)
/-- the end of a method that writes: its answer, its world behind it -/
def MQQ (ro : Option Value) (D : va_G) (WS' : va_W) (A : Nat → Prop) : Array Value → State → Outcome → State → Prop := fun _ st oc t => (oc = .returned ro ∧ va_P D vwCl WS' t.heap) ∧ va_F A st t
abbrev MU (l : Launch) (y : MethodName) (ws : List Cond) (rm : Room) (D : va_G) (cyC cyI cyO : ClassId) (WS : va_W) (av : List Value) (ro : Option Value) (WS' : va_W) : Prop := ∀ sz : Nat, Met l y ws rm (va_Pc av (MP D cyC cyI cyO WS sz)) (MQQ ro D WS' (va_A WS sz)) 0 0 (va_A WS sz)
theorem ro_blind {D : va_G} {cyC cyI cyO : ClassId} {WS : va_W} {av : List Value} : FrameBlind (va_Pc av (RP D cyC cyI cyO WS)) := fun a U g mk q => by
  obtain ⟨q0, qP, qK⟩ := q
  exact ⟨q0, qP, qK.calling⟩
theorem mu_blind {D : va_G} {cyC cyI cyO : ClassId} {WS : va_W} {av : List Value} {sz : Nat} : FrameBlind (va_Pc av (MP D cyC cyI cyO WS sz)) := fun a U g mk q => by
  obtain ⟨q0, q1, qP, qK, qD⟩ := q
  exact ⟨q0, q1, qP, qK.calling, qD⟩
/-- places of a world written anew -/
def putL : va_W → List Nat → va_W → va_W
  | ws, i :: is, x :: w1 => putL (ws.set i x) is w1
  | ws, _, _ => ws
theorem putL_get : ∀ (is : List Nat) (w1 ws : va_W) (k : Nat) (q : Nat × va_E), (putL ws is w1)[k]? = some q → is.length = w1.length → q ∈ w1 ∨ (ws[k]? = some q ∧ k ∉ is)
  | [], [], ws, k, q, h, _ => Or.inr ⟨h, List.not_mem_nil⟩
  | [], _ :: _, _, _, _, _, hl => by simp at hl
  | _ :: _, [], _, _, _, _, hl => by simp at hl
  | i :: is, x :: w1, ws, k, q, h, hl => by
    rcases putL_get is w1 (ws.set i x) k q h (by simpa using hl) with h1 | ⟨h1, h2⟩
    · exact Or.inl (List.mem_cons_of_mem _ h1)
    · by_cases hk : k = i
      · subst hk
        rw [List.getElem?_set] at h1
        simp only [if_true] at h1
        split at h1
        · cases h1
          exact Or.inl List.mem_cons_self
        · cases h1
      · rw [List.getElem?_set_ne (Ne.symm hk)] at h1
        exact Or.inr ⟨h1, fun z => (List.mem_cons.mp z).elim hk h2⟩
theorem va_D_fst {A : Nat → Prop} {ws ws' : va_W} (hD : va_D A ws) (h : ws'.map Prod.fst = ws.map Prod.fst) : va_D A ws' := by
  have key : ∀ (k : Nat) (q : Nat × va_E), ws'[k]? = some q → ∃ q0, ws[k]? = some q0 ∧ q0.1 = q.1 := by
    intro k q hk
    have h1 : (ws'.map Prod.fst)[k]? = some q.1 := by rw [List.getElem?_map, hk]; rfl
    rw [h, List.getElem?_map] at h1
    cases hw : ws[k]? with
    | none => rw [hw] at h1; cases h1
    | some q0 => rw [hw] at h1; exact ⟨q0, rfl, Option.some.inj h1⟩
  refine ⟨fun i j p q hi hj hpq => ?_, fun k q hk => ?_⟩
  · obtain ⟨p0, a1, a2⟩ := key i p hi
    obtain ⟨q0, b1, b2⟩ := key j q hj
    exact hD.1 i j p0 q0 a1 b1 (by rw [a2, b2, hpq])
  · obtain ⟨q0, a1, a2⟩ := key k q hk
    rw [← a2]
    exact hD.2 k q0 a1
/-- behind a call that wrote: the world with the callee's places written anew -/
theorem jn {D : va_G} {ws WS WS' ws' : va_W} {A : Nat → Prop} {H H1 : Heap} (is : List Nat) (hC : is.map (fun i => ws[i]?) = WS.map some) (hf : WS'.map Prod.fst = WS.map Prod.fst) (hW : putL ws is WS' = ws') (hP : va_P D vwCl ws H) (hD : va_D A ws) (hP1 : va_P D vwCl WS' H1) (hF : ∀ q : Nat, q < H.size → ¬ va_A WS H.size q → H1[q]? = H[q]?) : va_P D vwCl ws' H1 := by
  subst hW
  have hl : is.length = WS'.length := by
    have h1 := congrArg List.length hC
    have h2 := congrArg List.length hf
    simp only [List.length_map] at h1 h2
    omega
  have at' : ∀ (k : Nat) (q : Nat × va_E), WS[k]? = some q → ∃ i, is[k]? = some i ∧ ws[i]? = some q := by
    intro k q hq
    have h1 : (is.map (fun i => ws[i]?))[k]? = some (some q) := by rw [hC, List.getElem?_map, hq]; rfl
    rw [List.getElem?_map] at h1
    cases hi : is[k]? with
    | none => rw [hi] at h1; cases h1
    | some i => rw [hi] at h1; exact ⟨i, rfl, Option.some.inj h1⟩
  intro k q hk
  rcases putL_get is WS' ws k q hk hl with h | ⟨h1, h2⟩
  · obtain ⟨i, hi⟩ := List.getElem?_of_mem h
    exact hP1 i q hi
  · have hlt := (hP k q h1).lt
    refine (hP k q h1).kept (hF q.1 hlt (fun z => ?_))
    rcases z with ⟨k2, e, z⟩ | z
    · obtain ⟨j, h3, h4⟩ := at' k2 (q.1, e) z
      have hij := hD.1 k j q (q.1, e) h1 h4 rfl
      subst hij
      exact h2 (List.mem_of_getElem? h3)
    · omega
theorem sub_of_map {ws WS : va_W} (is : List Nat) (hC : is.map (fun i => ws[i]?) = WS.map some) : is.filterMap (fun i => ws[i]?) = WS := by
  have : ∀ (is : List Nat) (WS : va_W), is.map (fun i => ws[i]?) = WS.map some → is.filterMap (fun i => ws[i]?) = WS := by
    intro is
    induction is with
    | nil => intro WS h; cases WS with
      | nil => rfl
      | cons a b => simp at h
    | cons i is ih => intro WS h; cases WS with
      | nil => simp at h
      | cons a b =>
        simp only [List.map_cons, List.cons.injEq] at h
        rw [List.filterMap_cons, h.1, ih b h.2]
  exact this is WS hC
section QC
variable {p : Program} {l : Launch} {e : Env} {R : Room} {s : State} {m : MethodId} {args : Array Value} {below : List Frame} {meth : Method} {c : Code} {H : Heap} {locs : List Loc} {cells slots : Nat} {Q : State → Prop}
variable {pc : Nat} {ls : Array Slot} {rest st0 : List Value} {a : Array Value}
theorem ro_end {r : Int32} (hr : va_Run p l e R s m args below meth c H locs cells slots 0 0 (F0 m pc ls st0) rest (vp_Si (fun x => x = r) a) (fun _ => False))
    (kk : W p l e R s m args below meth c H locs cells slots Q (F0 m (pc + 3) ls (.int r :: rest))) : W p l e R s m args below meth c H locs cells slots Q (F0 m pc ls st0) := by
  intro T hT X
  obtain ⟨v, st₀, t, T', L, h0, X', hL, e1, e2, ⟨r', hv, hp, hh⟩, st⟩ := hr T hT X
  cases hv
  subst hp
  obtain ⟨t2, a1, b1⟩ := kk T' (by rw [e1, hh, h0]) (Stand.forget X' (fun q h => (hL q h).elim))
  exact ⟨t2, st t2 a1, b1⟩
theorem mu_end {ro : Option Value} {D : va_G} {ws WS WS' ws' : va_W} {A : Nat → Prop} {H0 : Heap} (hr : va_Run p l e R s m args below meth c H locs cells slots 0 0 (F0 m pc ls st0) rest (MQQ ro D WS' (va_A WS H.size) a) (va_A WS H.size))
    (is : List Nat) (hC : is.map (fun i => ws[i]?) = WS.map some) (hf : WS'.map Prod.fst = WS.map Prod.fst) (hW : putL ws is WS' = ws') (hf2 : ws'.map Prod.fst = ws.map Prod.fst) (hP : va_P D vwCl ws H) (hD : va_D A ws) (hS : va_S A H0 H locs) (hA : ∀ q, H0.size ≤ q → A q)
    (kk : ∀ (H1 : Heap) (locs1 : List Loc), va_P D vwCl ws' H1 → va_D A ws' → va_S A H0 H1 locs1 → W p l e R s m args below meth c H1 locs1 cells slots Q (F0 m (pc + 3) ls (ro.toList ++ rest))) : W p l e R s m args below meth c H locs cells slots Q (F0 m pc ls st0) := by
  have hfree : ∀ q, va_A WS H.size q → A q := va_free hD hS hA is hC
  intro T hT X
  obtain ⟨v, st₀, t, T', L, h0, X', hL, e1, e2, ⟨⟨hv, hp⟩, hz, hk⟩, st⟩ := hr T hT X
  cases hv
  rw [h0] at hz hk
  rw [← e1] at hp hz hk
  obtain ⟨t2, a1, b1⟩ := kk T'.heap (locs ++ L) (jn is hC hf hW hP hD hp hk) (va_D_fst hD hf2)
    ⟨Nat.le_trans hS.1 hz, fun q h1 h2 => by rw [hk q (Nat.lt_of_lt_of_le h1 hS.1) (fun z => h2 (hfree q z))]; exact hS.2.1 q h1 h2, fun q hq => by
      rcases List.mem_append.mp hq with h | h
      · exact hS.2.2 q h
      · exact hfree _ (hL q h)⟩ T' rfl X'
  exact ⟨t2, st t2 a1, b1⟩
end QC
section QR
variable {p : Program} {l : Launch} {e : Env} {R : Room} {s : State} {m : MethodId} {args : Array Value} {below : List Frame} {meth : Method} {c : Code} {H : Heap} {locs : List Loc} {cells slots : Nat} {Q : State → Prop}
variable {pc : Nat} {ls : Array Slot} {rest st0 : List Value} {y : MethodName} {cc bytes : ByteArray} {maxL nL n index : Nat} {ret : Option FieldType} {rm : Room} {own C : String} {b : Addr} {As : List Value} {D : va_G} {cyC cyI cyO : ClassId} {ws WS WS' ws' : va_W} {r : Int32} {ro : Option Value} {A : Nat → Prop} {H0 : Heap}
/-- a call of a static method that reads only -/
theorem rS (hx : p.tables.exec = Jvm.exec) (hb : c.code = cc) (hml : c.maxLocals = nL) (hown : s.vm.findClass own = some m.cls) (hts : ∀ w ∈ TB, w.before args s = true) (hls : ls.size = nL)
    (hM : RO l y (Ty y bytes maxL ret) rm D cyC cyI cyO WS As r) (hB : BS y bytes maxL ret n) (hlk : Cond.methodLink own index y ∈ TB) (hrc : rm.cells = 0 ∧ rm.slots = 0)
    (hR : rm.frames + 1 ≤ R.frames ∧ 8 + (maxL + 11) + rm.locals ≤ R.locals ∧ cells ≤ R.cells ∧ slots ≤ R.slots)
    (is : List Nat) (hC : is.map (fun i => ws[i]?) = WS.map some) (hP : va_P D vwCl ws H) (hK : KK D cyC cyI cyO s) (hn : As.length = n) (hst : st0 = As.reverse ++ rest) (hroom : (rest.map fun v => v.category).sum ≤ 8) (hdg : decode cc pc = .ok (.invokestatic index, 3))
    (kk : W p l e R s m args below meth c H locs cells slots Q (F0 m (pc + 3) ls (.int r :: rest))) : W p l e R s m args below meth c H locs cells slots Q (F0 m pc ls st0) :=
  ro_end (va_runS (As := As) (rest := rest) ⟨hx, hb, hml, hown, hts⟩ hM (va_cwS n hts (good3 hlk hB.2.1 hB.2.2.1 (TyGood hB.1)) rfl hrc.1 hrc.2 hB.2.2.2 ⟨hR.1, hR.2.1⟩) ⟨ro_blind, fun U hU hW => ⟨rfl, by rw [hU]; exact hP.sub is (sub_of_map is hC), hK.warm hW⟩⟩ rfl hn hls hst (lv_room hroom) hdg hR.2.2) kk
/-- .. of a virtual or private one -/
theorem rV (hx : p.tables.exec = Jvm.exec) (hb : c.code = cc) (hml : c.maxLocals = nL) (hown : s.vm.findClass own = some m.cls) (hts : ∀ w ∈ TB, w.before args s = true) (hls : ls.size = nL)
    (hM : RO l y (Ty y bytes maxL ret) rm D cyC cyI cyO WS (.ref b :: As) r) (hB : BV C y bytes maxL ret n) (hlk : Cond.methodLink own index y ∈ TB) (hrc : rm.cells = 0 ∧ rm.slots = 0)
    (hR : rm.frames + 1 ≤ R.frames ∧ 8 + (maxL + 11) + rm.locals ≤ R.locals ∧ cells ≤ R.cells ∧ slots ≤ R.slots)
    (is : List Nat) (hC : is.map (fun i => ws[i]?) = WS.map some) (hP : va_P D vwCl ws H) (hK : KK D cyC cyI cyO s) (q0 : Nat) {ci : Nat} {fs : List Value} {q : vw_C} (he : ws[q0]? = some (b, .inr (ci, fs))) (hc : vwCl[ci]? = some q) (hqC : q.1 = C) (hn : As.length = n) (hst : st0 = As.reverse ++ .ref b :: rest) (hroom : (rest.map fun v => v.category).sum ≤ 8) (hdg : decode cc pc = .ok (.invokevirtual index, 3))
    (kk : W p l e R s m args below meth c H locs cells slots Q (F0 m (pc + 3) ls (.int r :: rest))) : W p l e R s m args below meth c H locs cells slots Q (F0 m pc ls st0) := by
  subst hqC
  exact ro_end (va_runV (C := q.1) (As := As) (rest := rest) ⟨hx, hb, hml, hown, hts⟩ hM (cwV n hts (good4 hlk hB.2.1 hB.2.2.1 hB.2.2.2.1 (TyGood hB.1)) rfl hrc.1 hrc.2 hB.2.2.2.2 ⟨hR.1, hR.2.1⟩) ⟨ro_blind, va_recv hK.1 hP hc he, fun U hU hW => ⟨rfl, by rw [hU]; exact hP.sub is (sub_of_map is hC), hK.warm hW⟩⟩ rfl hn hls hst (lv_room hroom) hdg hR.2.2) kk
/-- .. of a nest mate's private static one -/
theorem rN {host : String} (hx : p.tables.exec = Jvm.exec) (hb : c.code = cc) (hml : c.maxLocals = nL) (hown : s.vm.findClass own = some m.cls) (hts : ∀ w ∈ TB, w.before args s = true) (hls : ls.size = nL)
    (hM : RO l y (Ty y bytes maxL ret) rm D cyC cyI cyO WS As r) (hB : BS y bytes maxL ret n) (hl : va_Nw (.methodLinkNest own index y host) s) (hrc : rm.cells = 0 ∧ rm.slots = 0)
    (hR : rm.frames + 1 ≤ R.frames ∧ 8 + (maxL + 11) + rm.locals ≤ R.locals ∧ cells ≤ R.cells ∧ slots ≤ R.slots)
    (is : List Nat) (hC : is.map (fun i => ws[i]?) = WS.map some) (hP : va_P D vwCl ws H) (hK : KK D cyC cyI cyO s) (hn : As.length = n) (hst : st0 = As.reverse ++ rest) (hroom : (rest.map fun v => v.category).sum ≤ 8) (hdg : decode cc pc = .ok (.invokestatic index, 3))
    (kk : W p l e R s m args below meth c H locs cells slots Q (F0 m (pc + 3) ls (.int r :: rest))) : W p l e R s m args below meth c H locs cells slots Q (F0 m pc ls st0) :=
  ro_end (va_runSN (As := As) (rest := rest) ⟨hx, hb, hml, hown, hts⟩ hM ⟨va_cnB n hts (TyGood hB.1) rfl hrc.1 hrc.2 hl (hts _ hB.2.2.1) hB.2.2.2 ⟨hR.1, hR.2.1⟩, hts _ hB.2.1, trivial⟩ ⟨ro_blind, fun U hU hW => ⟨rfl, by rw [hU]; exact hP.sub is (sub_of_map is hC), hK.warm hW⟩⟩ rfl hn hls hst (lv_room hroom) hdg hR.2.2) kk
/-- a call of a virtual or private method that writes -/
theorem mV (hx : p.tables.exec = Jvm.exec) (hb : c.code = cc) (hml : c.maxLocals = nL) (hown : s.vm.findClass own = some m.cls) (hts : ∀ w ∈ TB, w.before args s = true) (hls : ls.size = nL)
    (hM : MU l y (Ty y bytes maxL ret) rm D cyC cyI cyO WS (.ref b :: As) ro WS') (hB : BV C y bytes maxL ret n) (hlk : Cond.methodLink own index y ∈ TB) (hrc : rm.cells = 0 ∧ rm.slots = 0)
    (hR : rm.frames + 1 ≤ R.frames ∧ 8 + (maxL + 11) + rm.locals ≤ R.locals ∧ cells ≤ R.cells ∧ slots ≤ R.slots)
    (is : List Nat) (hnd : va_nd is = true) (hC : is.map (fun i => ws[i]?) = WS.map some) (hf : WS'.map Prod.fst = WS.map Prod.fst) (hW : putL ws is WS' = ws') (hf2 : ws'.map Prod.fst = ws.map Prod.fst) (hP : va_P D vwCl ws H) (hD : va_D A ws) (hS : va_S A H0 H locs) (hA : ∀ q, H0.size ≤ q → A q) (hK : KK D cyC cyI cyO s) (q0 : Nat) {ci : Nat} {fs : List Value} {q : vw_C} (he : ws[q0]? = some (b, .inr (ci, fs))) (hc : vwCl[ci]? = some q) (hqC : q.1 = C) (hn : As.length = n) (hst : st0 = As.reverse ++ .ref b :: rest) (hroom : (rest.map fun v => v.category).sum ≤ 8) (hdg : decode cc pc = .ok (.invokevirtual index, 3))
    (kk : ∀ (H1 : Heap) (locs1 : List Loc), va_P D vwCl ws' H1 → va_D A ws' → va_S A H0 H1 locs1 → W p l e R s m args below meth c H1 locs1 cells slots Q (F0 m (pc + 3) ls (ro.toList ++ rest))) : W p l e R s m args below meth c H locs cells slots Q (F0 m pc ls st0) := by
  subst hqC
  exact mu_end (va_runV (C := q.1) (As := As) (rest := rest) ⟨hx, hb, hml, hown, hts⟩ (hM H.size) (cwV n hts (good4 hlk hB.2.1 hB.2.2.1 hB.2.2.2.1 (TyGood hB.1)) rfl hrc.1 hrc.2 hB.2.2.2.2 ⟨hR.1, hR.2.1⟩) ⟨mu_blind, va_recv hK.1 hP hc he, fun U hU hW => ⟨rfl, by rw [hU], by rw [hU]; exact hP.sub is (sub_of_map is hC), hK.warm hW, (hD.sub is hnd hC).weaken (fun _ _ _ _ => trivial)⟩⟩ rfl hn hls hst (lv_room hroom) hdg hR.2.2) is hC hf hW hf2 hP hD hS hA kk
/-- .. of a static one that writes -/
theorem mS (hx : p.tables.exec = Jvm.exec) (hb : c.code = cc) (hml : c.maxLocals = nL) (hown : s.vm.findClass own = some m.cls) (hts : ∀ w ∈ TB, w.before args s = true) (hls : ls.size = nL)
    (hM : MU l y (Ty y bytes maxL ret) rm D cyC cyI cyO WS As ro WS') (hB : BS y bytes maxL ret n) (hlk : Cond.methodLink own index y ∈ TB) (hrc : rm.cells = 0 ∧ rm.slots = 0)
    (hR : rm.frames + 1 ≤ R.frames ∧ 8 + (maxL + 11) + rm.locals ≤ R.locals ∧ cells ≤ R.cells ∧ slots ≤ R.slots)
    (is : List Nat) (hnd : va_nd is = true) (hC : is.map (fun i => ws[i]?) = WS.map some) (hf : WS'.map Prod.fst = WS.map Prod.fst) (hW : putL ws is WS' = ws') (hf2 : ws'.map Prod.fst = ws.map Prod.fst) (hP : va_P D vwCl ws H) (hD : va_D A ws) (hS : va_S A H0 H locs) (hA : ∀ q, H0.size ≤ q → A q) (hK : KK D cyC cyI cyO s) (hn : As.length = n) (hst : st0 = As.reverse ++ rest) (hroom : (rest.map fun v => v.category).sum ≤ 8) (hdg : decode cc pc = .ok (.invokestatic index, 3))
    (kk : ∀ (H1 : Heap) (locs1 : List Loc), va_P D vwCl ws' H1 → va_D A ws' → va_S A H0 H1 locs1 → W p l e R s m args below meth c H1 locs1 cells slots Q (F0 m (pc + 3) ls (ro.toList ++ rest))) : W p l e R s m args below meth c H locs cells slots Q (F0 m pc ls st0) :=
  mu_end (va_runS (As := As) (rest := rest) ⟨hx, hb, hml, hown, hts⟩ (hM H.size) (va_cwS n hts (good3 hlk hB.2.1 hB.2.2.1 (TyGood hB.1)) rfl hrc.1 hrc.2 hB.2.2.2 ⟨hR.1, hR.2.1⟩) ⟨mu_blind, fun U hU hW => ⟨rfl, by rw [hU], by rw [hU]; exact hP.sub is (sub_of_map is hC), hK.warm hW, (hD.sub is hnd hC).weaken (fun _ _ _ _ => trivial)⟩⟩ rfl hn hls hst (lv_room hroom) hdg hR.2.2) is hC hf hW hf2 hP hD hS hA kk
end QR
/-- a loop counted up: what n turns make of x -/
def fo {α : Type} (f : Nat → α → α) (x : α) : Nat → α
  | 0 => x
  | n + 1 => f n (fo f x n)
theorem fo_s {α : Type} (f : Nat → α → α) (x : α) (n : Nat) : fo f x (n + 1) = f n (fo f x n) := rfl
theorem nle_of {C : Int32} {N i : Nat} (hC : C = nI N) (h : i < N) (hN : N < 2 ^ 31) : ¬ C ≤ nI i := by rw [hC]; exact nI_ge h hN
theorem le_of {C : Int32} {N : Nat} (hC : C = nI N) : C ≤ nI N := by rw [hC]; exact Int32.le_refl _
end
section
abbrev wC (cyI : ClassId) (A : Nat → Nat) (u : (Nat → Nat → Int32)) (w : (Nat → Int32)) : va_W := [(A 0, .inr (0, [.ref (A 1), .ref (A 2), .ref (A 3), .ref (A 4), .ref (A 5), .ref (A 6), .ref (A 7), .ref (A 8), .int (w 8), .int (w 9), .int (w 10), .int (w 11), .int (w 12), .int (w 13), .int (w 14), .int (w 15), .int (w 16), .int (w 17), .int (w 18)])), (A 1, .inl (cyI, 28, .inl (u 0))), (A 2, .inl (cyI, 28, .inl (u 1))), (A 3, .inl (cyI, 28, .inl (u 2))), (A 4, .inl (cyI, 28, .inl (u 3))), (A 5, .inl (cyI, 4, .inl (u 4))), (A 6, .inl (cyI, 4, .inl (u 5))), (A 7, .inl (cyI, 4, .inl (u 6))), (A 8, .inl (cyI, 4, .inl (u 7)))]
abbrev wM (cyI : ClassId) (A : Nat → Nat) (u : (Nat → Nat → Int32)) (w : (Nat → Int32)) : va_W := [(A 0, .inr (6, [.ref (A 1), .ref (A 2), .ref (A 3), .int (w 3), .ref (A 4), .int (w 5), .ref (A 5), .int (w 7), .int (w 8), .int (w 9), .int (w 10), .int (w 11), .int (w 12), .int (w 13), .ref (A 6)])), (A 1, .inl (cyI, 142, .inl (u 0))), (A 2, .inl (cyI, 142, .inl (u 1))), (A 3, .inl (cyI, 568, .inl (u 2))), (A 4, .inl (cyI, 142, .inl (u 3))), (A 5, .inl (cyI, 60, .inl (u 4))), (A 6, .inl (cyI, 3, .inl (u 5)))]
abbrev wPd (cyC : ClassId) (A : Nat → Nat) (u : (Nat → Nat → Int32)) (w : (Nat → Int32)) : va_W := [(A 0, .inr (3, [.ref (A 1), .int (w 1)])), (A 1, .inl (cyC, 60, .inl (u 0)))]
abbrev wRd (A : Nat → Nat) (w : (Nat → Int32)) : va_W := [(A 0, .inr (2, [.ref (A 1), .int (w 1), .int (w 2), .int (w 3), .int (w 4), .int (w 5)]))]
abbrev wWy (cyI : ClassId) (A : Nat → Nat) (u : (Nat → Nat → Int32)) : va_W := [(A 0, .inr (4, [.ref (A 1), .ref (A 2)])), (A 1, .inl (cyI, 16, .inl (u 0))), (A 2, .inl (cyI, 16, .inl (u 1)))]
abbrev wRt (A : Nat → Nat) (w : (Nat → Int32)) : va_W := [(A 0, .inr (5, [.ref (A 1), .ref (A 2), .ref (A 3), .int (w 3), .ref (A 4), .ref (A 5), .ref (A 6), .ref (A 7), .int (w 8), .int (w 9), .int (w 10), .int (w 11)]))]
theorem vp_lit {x : Int32} {n : Nat} (h : ¬ (x < 0 ∨ n ≤ x.toNatClampNeg)) : vp_in x n := h

def pX6_isWithin (a1 : Int32) (a2 : Int32) (a3 : Int32) : Int32 := (if a1 < a2 then 0 else (if a3 < a1 then 0 else 1))
set_option maxHeartbeats 4000000 in
set_option maxRecDepth 100000 in
theorem kX6_isWithin (l : Launch) (D : va_G) (cyC cyI cyO : ClassId) (a1 : Int32) (a2 : Int32) (a3 : Int32) : RO l yX6_isWithin (Ty yX6_isWithin cX6_isWithin 3 (some .boolean)) ({ frames := 0, cells := 0, slots := 0, locals := 0 } : Room) D cyC cyI cyO [] [.int a1, .int a2, .int a3] (pX6_isWithin a1 a2 a3) := by
  refine Met.ofW (cc := cX6_isWithin) (maxL := 3) (ret := (some .boolean)) (by decide) rfl ?_
  intro p e s m args below meth cd s₁ B hml hv
  obtain ⟨rfl, hP, hK⟩ := hv
  have hx := B.exec
  have hb := B.bytes
  have hr := B.returns
  have hts : ∀ w ∈ TB, w.before ([.int a1, .int a2, .int a3] : List Value).toArray s = true := fun w h => atoms_spec (ws := (Ty yX6_isWithin cX6_isWithin 3 (some .boolean))) B.pre w (List.mem_cons_of_mem _ h)
  have hown : s.vm.findClass RX6 = some m.cls := findClass_of_methodNamed B.named
  have hlocks := B.notSynchronized
  have hl := lv_entry ([.int a1, .int a2, .int a3]) (n := 3) (Nat.le_of_ble_eq_true rfl)
  rw [lg_entry_eq]
  generalize (lg_sl ([.int a1, .int a2, .int a3]) ++ List.replicate (3 - (lg_sl ([.int a1, .int a2, .int a3])).length) Slot.unset).toArray = ls at hl ⊢
  have hl : lv_has ls 3 [(0, .int a1), (1, .int a2), (2, .int a3)] := hl
  refine lv_iload_n hx hb dX6_isWithin_0 rfl (lv_at hl 0 rfl) ?_
  refine lv_iload_n hx hb dX6_isWithin_1 rfl (lv_at hl 1 rfl) ?_
  refine lv_icmp_lt (tgt := 14) hx hb dX6_isWithin_2 (by decide) (fun c_1 => ?_) (fun c_1 => ?_)
  · refine lv_iconst (v := 0) hx hb dX6_isWithin_14 (by decide) ?_
    have e9 : 0 = (pX6_isWithin a1 a2 a3) := by simp only [pX6_isWithin, if_pos c_1]
    exact W.zret (ty := .boolean) (v := 0) hx hb hr (by rfl) (fun t ht hW => ⟨_, rfl, e9, ht⟩) (fun _ h => absurd h List.not_mem_nil) dX6_isWithin_15
  · refine lv_iload_n hx hb dX6_isWithin_5 rfl (lv_at hl 0 rfl) ?_
    refine lv_iload_n hx hb dX6_isWithin_6 rfl (lv_at hl 2 rfl) ?_
    refine lv_icmp_gt (tgt := 14) hx hb dX6_isWithin_7 (by decide) (fun c_2 => ?_) (fun c_2 => ?_)
    · refine lv_iconst (v := 0) hx hb dX6_isWithin_14 (by decide) ?_
      have e9 : 0 = (pX6_isWithin a1 a2 a3) := by simp only [pX6_isWithin, if_neg c_1, if_pos c_2]
      exact W.zret (ty := .boolean) (v := 0) hx hb hr (by rfl) (fun t ht hW => ⟨_, rfl, e9, ht⟩) (fun _ h => absurd h List.not_mem_nil) dX6_isWithin_15
    · refine lv_iconst (v := 1) hx hb dX6_isWithin_10 (by decide) ?_
      refine lv_goto (tgt := 15) hx hb dX6_isWithin_11 (by decide) ?_
      have e9 : 1 = (pX6_isWithin a1 a2 a3) := by simp only [pX6_isWithin, if_neg c_1, if_neg c_2]
      exact W.zret (ty := .boolean) (v := 1) hx hb hr (by rfl) (fun t ht hW => ⟨_, rfl, e9, ht⟩) (fun _ h => absurd h List.not_mem_nil) dX6_isWithin_15
theorem bS_X6_isWithin : BS yX6_isWithin cX6_isWithin 3 (some .boolean) 3 := ⟨wcd_X6_isWithin, wst_X6_isWithin, win_RX6, by decide +kernel⟩
def pX6_isRoof (a1 : Int32) : Int32 := (pX6_isWithin a1 0 15)
set_option maxHeartbeats 4000000 in
set_option maxRecDepth 100000 in
theorem kX6_isRoof (l : Launch) (D : va_G) (cyC cyI cyO : ClassId) (a1 : Int32) : RO l yX6_isRoof (Ty yX6_isRoof cX6_isRoof 1 (some .boolean)) ({ frames := 1, cells := 0, slots := 0, locals := 22 } : Room) D cyC cyI cyO [] [.int a1] (pX6_isRoof a1) := by
  refine Met.ofW (cc := cX6_isRoof) (maxL := 1) (ret := (some .boolean)) (by decide) rfl ?_
  intro p e s m args below meth cd s₁ B hml hv
  obtain ⟨rfl, hP, hK⟩ := hv
  have hx := B.exec
  have hb := B.bytes
  have hr := B.returns
  have hts : ∀ w ∈ TB, w.before ([.int a1] : List Value).toArray s = true := fun w h => atoms_spec (ws := (Ty yX6_isRoof cX6_isRoof 1 (some .boolean))) B.pre w (List.mem_cons_of_mem _ h)
  have hown : s.vm.findClass RX6 = some m.cls := findClass_of_methodNamed B.named
  have hlocks := B.notSynchronized
  have hl := lv_entry ([.int a1]) (n := 1) (Nat.le_of_ble_eq_true rfl)
  rw [lg_entry_eq]
  generalize (lg_sl ([.int a1]) ++ List.replicate (1 - (lg_sl ([.int a1])).length) Slot.unset).toArray = ls at hl ⊢
  have hl : lv_has ls 1 [(0, .int a1)] := hl
  refine lv_iload_n hx hb dX6_isRoof_0 rfl (lv_at hl 0 rfl) ?_
  refine lv_iconst (v := 0) hx hb dX6_isRoof_1 (by decide) ?_
  refine lv_bipush (v := 15) hx hb dX6_isRoof_2 (by decide) ?_
  refine rS (As := [.int a1, .int 0, .int 15]) (rest := []) hx hb hml hown hts hl.1 (kX6_isWithin l D cyC cyI cyO a1 0 15) bS_X6_isWithin  wml_RX6_58 ⟨rfl, rfl⟩ ⟨Nat.le_of_ble_eq_true rfl, Nat.le_of_ble_eq_true rfl, Nat.zero_le _, Nat.zero_le _⟩ [] rfl hP hK rfl rfl (Nat.le_of_ble_eq_true rfl) dX6_isRoof_4 ?_
  have e9 : (pX6_isWithin a1 0 15) = (pX6_isRoof a1) := rfl
  exact W.zret (ty := .boolean) (v := (pX6_isWithin a1 0 15)) hx hb hr (by rfl) (fun t ht hW => ⟨_, rfl, e9, ht⟩) (fun _ h => absurd h List.not_mem_nil) dX6_isRoof_7
theorem bS_X6_isRoof : BS yX6_isRoof cX6_isRoof 1 (some .boolean) 1 := ⟨wcd_X6_isRoof, wst_X6_isRoof, win_RX6, by decide +kernel⟩
def pX6_isOwner (a1 : Int32) : Int32 := (pX6_isWithin a1 0 3)
set_option maxHeartbeats 4000000 in
set_option maxRecDepth 100000 in
theorem kX6_isOwner (l : Launch) (D : va_G) (cyC cyI cyO : ClassId) (a1 : Int32) : RO l yX6_isOwner (Ty yX6_isOwner cX6_isOwner 1 (some .boolean)) ({ frames := 1, cells := 0, slots := 0, locals := 22 } : Room) D cyC cyI cyO [] [.int a1] (pX6_isOwner a1) := by
  refine Met.ofW (cc := cX6_isOwner) (maxL := 1) (ret := (some .boolean)) (by decide) rfl ?_
  intro p e s m args below meth cd s₁ B hml hv
  obtain ⟨rfl, hP, hK⟩ := hv
  have hx := B.exec
  have hb := B.bytes
  have hr := B.returns
  have hts : ∀ w ∈ TB, w.before ([.int a1] : List Value).toArray s = true := fun w h => atoms_spec (ws := (Ty yX6_isOwner cX6_isOwner 1 (some .boolean))) B.pre w (List.mem_cons_of_mem _ h)
  have hown : s.vm.findClass RX6 = some m.cls := findClass_of_methodNamed B.named
  have hlocks := B.notSynchronized
  have hl := lv_entry ([.int a1]) (n := 1) (Nat.le_of_ble_eq_true rfl)
  rw [lg_entry_eq]
  generalize (lg_sl ([.int a1]) ++ List.replicate (1 - (lg_sl ([.int a1])).length) Slot.unset).toArray = ls at hl ⊢
  have hl : lv_has ls 1 [(0, .int a1)] := hl
  refine lv_iload_n hx hb dX6_isOwner_0 rfl (lv_at hl 0 rfl) ?_
  refine lv_iconst (v := 0) hx hb dX6_isOwner_1 (by decide) ?_
  refine lv_iconst (v := 3) hx hb dX6_isOwner_2 (by decide) ?_
  refine rS (As := [.int a1, .int 0, .int 3]) (rest := []) hx hb hml hown hts hl.1 (kX6_isWithin l D cyC cyI cyO a1 0 3) bS_X6_isWithin  wml_RX6_58 ⟨rfl, rfl⟩ ⟨Nat.le_of_ble_eq_true rfl, Nat.le_of_ble_eq_true rfl, Nat.zero_le _, Nat.zero_le _⟩ [] rfl hP hK rfl rfl (Nat.le_of_ble_eq_true rfl) dX6_isOwner_3 ?_
  have e9 : (pX6_isWithin a1 0 3) = (pX6_isOwner a1) := rfl
  exact W.zret (ty := .boolean) (v := (pX6_isWithin a1 0 3)) hx hb hr (by rfl) (fun t ht hW => ⟨_, rfl, e9, ht⟩) (fun _ h => absurd h List.not_mem_nil) dX6_isOwner_6
theorem bS_X6_isOwner : BS yX6_isOwner cX6_isOwner 1 (some .boolean) 1 := ⟨wcd_X6_isOwner, wst_X6_isOwner, win_RX6, by decide +kernel⟩
def pX6_bitOf (a1 : Int32) (a2 : Int32) : Int32 := ((a1 >>> (a2 &&& 31)) &&& 1)
set_option maxHeartbeats 4000000 in
set_option maxRecDepth 100000 in
theorem kX6_bitOf (l : Launch) (D : va_G) (cyC cyI cyO : ClassId) (a1 : Int32) (a2 : Int32) : RO l yX6_bitOf (Ty yX6_bitOf cX6_bitOf 2 (some .int)) ({ frames := 0, cells := 0, slots := 0, locals := 0 } : Room) D cyC cyI cyO [] [.int a1, .int a2] (pX6_bitOf a1 a2) := by
  refine Met.ofW (cc := cX6_bitOf) (maxL := 2) (ret := (some .int)) (by decide) rfl ?_
  intro p e s m args below meth cd s₁ B hml hv
  obtain ⟨rfl, hP, hK⟩ := hv
  have hx := B.exec
  have hb := B.bytes
  have hr := B.returns
  have hts : ∀ w ∈ TB, w.before ([.int a1, .int a2] : List Value).toArray s = true := fun w h => atoms_spec (ws := (Ty yX6_bitOf cX6_bitOf 2 (some .int))) B.pre w (List.mem_cons_of_mem _ h)
  have hown : s.vm.findClass RX6 = some m.cls := findClass_of_methodNamed B.named
  have hlocks := B.notSynchronized
  have hl := lv_entry ([.int a1, .int a2]) (n := 2) (Nat.le_of_ble_eq_true rfl)
  rw [lg_entry_eq]
  generalize (lg_sl ([.int a1, .int a2]) ++ List.replicate (2 - (lg_sl ([.int a1, .int a2])).length) Slot.unset).toArray = ls at hl ⊢
  have hl : lv_has ls 2 [(0, .int a1), (1, .int a2)] := hl
  refine lv_iload_n hx hb dX6_bitOf_0 rfl (lv_at hl 0 rfl) ?_
  refine lv_iload_n hx hb dX6_bitOf_1 rfl (lv_at hl 1 rfl) ?_
  refine lv_ishr hx hb dX6_bitOf_2 ?_
  refine lv_iconst (v := 1) hx hb dX6_bitOf_3 (by decide) ?_
  refine lv_iand hx hb dX6_bitOf_4 ?_
  have e9 : ((a1 >>> (a2 &&& 31)) &&& 1) = (pX6_bitOf a1 a2) := rfl
  exact W.iret (v := ((a1 >>> (a2 &&& 31)) &&& 1)) hx hb hr (fun t ht hW => ⟨_, rfl, e9, ht⟩) (fun _ h => absurd h List.not_mem_nil) dX6_bitOf_5
theorem bS_X6_bitOf : BS yX6_bitOf cX6_bitOf 2 (some .int) 2 := ⟨wcd_X6_bitOf, wst_X6_bitOf, win_RX6, by decide +kernel⟩
def pX6_isIn (a1 : Int32) (a2 : Int32) : Int32 := (if ((a1 >>> (a2 &&& 31)) &&& 1) = 1 then 1 else 0)
set_option maxHeartbeats 4000000 in
set_option maxRecDepth 100000 in
theorem kX6_isIn (l : Launch) (D : va_G) (cyC cyI cyO : ClassId) (a1 : Int32) (a2 : Int32) : RO l yX6_isIn (Ty yX6_isIn cX6_isIn 2 (some .boolean)) ({ frames := 0, cells := 0, slots := 0, locals := 0 } : Room) D cyC cyI cyO [] [.int a1, .int a2] (pX6_isIn a1 a2) := by
  refine Met.ofW (cc := cX6_isIn) (maxL := 2) (ret := (some .boolean)) (by decide) rfl ?_
  intro p e s m args below meth cd s₁ B hml hv
  obtain ⟨rfl, hP, hK⟩ := hv
  have hx := B.exec
  have hb := B.bytes
  have hr := B.returns
  have hts : ∀ w ∈ TB, w.before ([.int a1, .int a2] : List Value).toArray s = true := fun w h => atoms_spec (ws := (Ty yX6_isIn cX6_isIn 2 (some .boolean))) B.pre w (List.mem_cons_of_mem _ h)
  have hown : s.vm.findClass RX6 = some m.cls := findClass_of_methodNamed B.named
  have hlocks := B.notSynchronized
  have hl := lv_entry ([.int a1, .int a2]) (n := 2) (Nat.le_of_ble_eq_true rfl)
  rw [lg_entry_eq]
  generalize (lg_sl ([.int a1, .int a2]) ++ List.replicate (2 - (lg_sl ([.int a1, .int a2])).length) Slot.unset).toArray = ls at hl ⊢
  have hl : lv_has ls 2 [(0, .int a1), (1, .int a2)] := hl
  refine lv_iload_n hx hb dX6_isIn_0 rfl (lv_at hl 0 rfl) ?_
  refine lv_iload_n hx hb dX6_isIn_1 rfl (lv_at hl 1 rfl) ?_
  refine lv_ishr hx hb dX6_isIn_2 ?_
  refine lv_iconst (v := 1) hx hb dX6_isIn_3 (by decide) ?_
  refine lv_iand hx hb dX6_isIn_4 ?_
  refine lv_iconst (v := 1) hx hb dX6_isIn_5 (by decide) ?_
  refine lv_icmp_ne (tgt := 13) hx hb dX6_isIn_6 (by decide) (fun c_1 => ?_) (fun c_1 => ?_)
  · refine lv_iconst (v := 0) hx hb dX6_isIn_13 (by decide) ?_
    have e9 : 0 = (pX6_isIn a1 a2) := by simp only [pX6_isIn, if_neg c_1]
    exact W.zret (ty := .boolean) (v := 0) hx hb hr (by rfl) (fun t ht hW => ⟨_, rfl, e9, ht⟩) (fun _ h => absurd h List.not_mem_nil) dX6_isIn_14
  · refine lv_iconst (v := 1) hx hb dX6_isIn_9 (by decide) ?_
    refine lv_goto (tgt := 14) hx hb dX6_isIn_10 (by decide) ?_
    have e9 : 1 = (pX6_isIn a1 a2) := by simp only [pX6_isIn, if_pos c_1]
    exact W.zret (ty := .boolean) (v := 1) hx hb hr (by rfl) (fun t ht hW => ⟨_, rfl, e9, ht⟩) (fun _ h => absurd h List.not_mem_nil) dX6_isIn_14
theorem bS_X6_isIn : BS yX6_isIn cX6_isIn 2 (some .boolean) 2 := ⟨wcd_X6_isIn, wst_X6_isIn, win_RX6, by decide +kernel⟩
def pX6_causeIn (a1 : Int32) : Int32 := (if a1 < 10 then a1 else 0)
set_option maxHeartbeats 4000000 in
set_option maxRecDepth 100000 in
theorem kX6_causeIn (l : Launch) (D : va_G) (cyC cyI cyO : ClassId) (a1 : Int32) : RO l yX6_causeIn (Ty yX6_causeIn cX6_causeIn 1 (some .int)) ({ frames := 0, cells := 0, slots := 0, locals := 0 } : Room) D cyC cyI cyO [] [.int a1] (pX6_causeIn a1) := by
  refine Met.ofW (cc := cX6_causeIn) (maxL := 1) (ret := (some .int)) (by decide) rfl ?_
  intro p e s m args below meth cd s₁ B hml hv
  obtain ⟨rfl, hP, hK⟩ := hv
  have hx := B.exec
  have hb := B.bytes
  have hr := B.returns
  have hts : ∀ w ∈ TB, w.before ([.int a1] : List Value).toArray s = true := fun w h => atoms_spec (ws := (Ty yX6_causeIn cX6_causeIn 1 (some .int))) B.pre w (List.mem_cons_of_mem _ h)
  have hown : s.vm.findClass RX6 = some m.cls := findClass_of_methodNamed B.named
  have hlocks := B.notSynchronized
  have hl := lv_entry ([.int a1]) (n := 1) (Nat.le_of_ble_eq_true rfl)
  rw [lg_entry_eq]
  generalize (lg_sl ([.int a1]) ++ List.replicate (1 - (lg_sl ([.int a1])).length) Slot.unset).toArray = ls at hl ⊢
  have hl : lv_has ls 1 [(0, .int a1)] := hl
  refine lv_iload_n hx hb dX6_causeIn_0 rfl (lv_at hl 0 rfl) ?_
  refine lv_bipush (v := 10) hx hb dX6_causeIn_1 (by decide) ?_
  refine lv_icmp_lt (tgt := 10) hx hb dX6_causeIn_3 (by decide) (fun c_1 => ?_) (fun c_1 => ?_)
  · refine lv_iload_n hx hb dX6_causeIn_10 rfl (lv_at hl 0 rfl) ?_
    have e9 : a1 = (pX6_causeIn a1) := by simp only [pX6_causeIn, if_pos c_1]
    exact W.iret (v := a1) hx hb hr (fun t ht hW => ⟨_, rfl, e9, ht⟩) (fun _ h => absurd h List.not_mem_nil) dX6_causeIn_11
  · refine lv_iconst (v := 0) hx hb dX6_causeIn_6 (by decide) ?_
    refine lv_goto (tgt := 11) hx hb dX6_causeIn_7 (by decide) ?_
    have e9 : 0 = (pX6_causeIn a1) := by simp only [pX6_causeIn, if_neg c_1]
    exact W.iret (v := 0) hx hb hr (fun t ht hW => ⟨_, rfl, e9, ht⟩) (fun _ h => absurd h List.not_mem_nil) dX6_causeIn_11
theorem bS_X6_causeIn : BS yX6_causeIn cX6_causeIn 1 (some .int) 1 := ⟨wcd_X6_causeIn, wst_X6_causeIn, win_RX6, by decide +kernel⟩
def pX4_isGangway (a1 : Int32) : Int32 := (if (pX6_isWithin a1 0 27) = 0 then 0 else (if 16 ≤ a1 then 1 else (if (a1 - a1 / 4 * 4) = 3 then 0 else 1)))
set_option maxHeartbeats 4000000 in
set_option maxRecDepth 100000 in
theorem kX4_isGangway (l : Launch) (D : va_G) (cyC cyI cyO : ClassId) (a1 : Int32) : RO l yX4_isGangway (Ty yX4_isGangway cX4_isGangway 1 (some .boolean)) ({ frames := 1, cells := 0, slots := 0, locals := 22 } : Room) D cyC cyI cyO [] [.int a1] (pX4_isGangway a1) := by
  refine Met.ofW (cc := cX4_isGangway) (maxL := 1) (ret := (some .boolean)) (by decide) rfl ?_
  intro p e s m args below meth cd s₁ B hml hv
  obtain ⟨rfl, hP, hK⟩ := hv
  have hx := B.exec
  have hb := B.bytes
  have hr := B.returns
  have hts : ∀ w ∈ TB, w.before ([.int a1] : List Value).toArray s = true := fun w h => atoms_spec (ws := (Ty yX4_isGangway cX4_isGangway 1 (some .boolean))) B.pre w (List.mem_cons_of_mem _ h)
  have hown : s.vm.findClass RX4 = some m.cls := findClass_of_methodNamed B.named
  have hlocks := B.notSynchronized
  have hl := lv_entry ([.int a1]) (n := 1) (Nat.le_of_ble_eq_true rfl)
  rw [lg_entry_eq]
  generalize (lg_sl ([.int a1]) ++ List.replicate (1 - (lg_sl ([.int a1])).length) Slot.unset).toArray = ls at hl ⊢
  have hl : lv_has ls 1 [(0, .int a1)] := hl
  refine lv_iload_n hx hb dX4_isGangway_0 rfl (lv_at hl 0 rfl) ?_
  refine lv_iconst (v := 0) hx hb dX4_isGangway_1 (by decide) ?_
  refine lv_bipush (v := 27) hx hb dX4_isGangway_2 (by decide) ?_
  refine rN (As := [.int a1, .int 0, .int 27]) (rest := []) hx hb hml hown hts hl.1 (kX6_isWithin l D cyC cyI cyO a1 0 27) bS_X6_isWithin  hK.2.2.1 ⟨rfl, rfl⟩ ⟨Nat.le_of_ble_eq_true rfl, Nat.le_of_ble_eq_true rfl, Nat.zero_le _, Nat.zero_le _⟩ [] rfl hP hK rfl rfl (Nat.le_of_ble_eq_true rfl) dX4_isGangway_4 ?_
  refine lv_if_ne (tgt := 12) hx hb dX4_isGangway_7 (by decide) (fun c_1 => ?_) (fun c_1 => ?_)
  · refine lv_iload_n hx hb dX4_isGangway_12 rfl (lv_at hl 0 rfl) ?_
    refine lv_bipush (v := 16) hx hb dX4_isGangway_13 (by decide) ?_
    refine lv_icmp_ge (tgt := 25) hx hb dX4_isGangway_15 (by decide) (fun c_2 => ?_) (fun c_2 => ?_)
    · refine lv_iconst (v := 1) hx hb dX4_isGangway_25 (by decide) ?_
      refine lv_goto (tgt := 30) hx hb dX4_isGangway_26 (by decide) ?_
      have e9 : 1 = (pX4_isGangway a1) := by simp only [pX4_isGangway, if_neg c_1, if_pos c_2]
      exact W.zret (ty := .boolean) (v := 1) hx hb hr (by rfl) (fun t ht hW => ⟨_, rfl, e9, ht⟩) (fun _ h => absurd h List.not_mem_nil) dX4_isGangway_30
    · refine lv_iload_n hx hb dX4_isGangway_18 rfl (lv_at hl 0 rfl) ?_
      refine lv_iconst (v := 4) hx hb dX4_isGangway_19 (by decide) ?_
      refine lv_irem hx hb dX4_isGangway_20 (by decide) ?_
      refine lv_iconst (v := 3) hx hb dX4_isGangway_21 (by decide) ?_
      refine lv_icmp_eq (tgt := 29) hx hb dX4_isGangway_22 (by decide) (fun c_3 => ?_) (fun c_3 => ?_)
      · refine lv_iconst (v := 0) hx hb dX4_isGangway_29 (by decide) ?_
        have e9 : 0 = (pX4_isGangway a1) := by simp only [pX4_isGangway, if_neg c_1, if_neg c_2, if_pos c_3]
        exact W.zret (ty := .boolean) (v := 0) hx hb hr (by rfl) (fun t ht hW => ⟨_, rfl, e9, ht⟩) (fun _ h => absurd h List.not_mem_nil) dX4_isGangway_30
      · refine lv_iconst (v := 1) hx hb dX4_isGangway_25 (by decide) ?_
        refine lv_goto (tgt := 30) hx hb dX4_isGangway_26 (by decide) ?_
        have e9 : 1 = (pX4_isGangway a1) := by simp only [pX4_isGangway, if_neg c_1, if_neg c_2, if_neg c_3]
        exact W.zret (ty := .boolean) (v := 1) hx hb hr (by rfl) (fun t ht hW => ⟨_, rfl, e9, ht⟩) (fun _ h => absurd h List.not_mem_nil) dX4_isGangway_30
  · refine lv_iconst (v := 0) hx hb dX4_isGangway_10 (by decide) ?_
    have e9 : 0 = (pX4_isGangway a1) := by simp only [pX4_isGangway, if_pos c_1]
    exact W.zret (ty := .boolean) (v := 0) hx hb hr (by rfl) (fun t ht hW => ⟨_, rfl, e9, ht⟩) (fun _ h => absurd h List.not_mem_nil) dX4_isGangway_11
theorem bS_X4_isGangway : BS yX4_isGangway cX4_isGangway 1 (some .boolean) 1 := ⟨wcd_X4_isGangway, wst_X4_isGangway, win_RX4, by decide +kernel⟩
def pX4_lesserRoof (a1 : Int32) : Int32 := (if 16 ≤ a1 then (a1 - 16) else a1)
set_option maxHeartbeats 4000000 in
set_option maxRecDepth 100000 in
theorem kX4_lesserRoof (l : Launch) (D : va_G) (cyC cyI cyO : ClassId) (a1 : Int32) : RO l yX4_lesserRoof (Ty yX4_lesserRoof cX4_lesserRoof 1 (some .int)) ({ frames := 0, cells := 0, slots := 0, locals := 0 } : Room) D cyC cyI cyO [] [.int a1] (pX4_lesserRoof a1) := by
  refine Met.ofW (cc := cX4_lesserRoof) (maxL := 1) (ret := (some .int)) (by decide) rfl ?_
  intro p e s m args below meth cd s₁ B hml hv
  obtain ⟨rfl, hP, hK⟩ := hv
  have hx := B.exec
  have hb := B.bytes
  have hr := B.returns
  have hts : ∀ w ∈ TB, w.before ([.int a1] : List Value).toArray s = true := fun w h => atoms_spec (ws := (Ty yX4_lesserRoof cX4_lesserRoof 1 (some .int))) B.pre w (List.mem_cons_of_mem _ h)
  have hown : s.vm.findClass RX4 = some m.cls := findClass_of_methodNamed B.named
  have hlocks := B.notSynchronized
  have hl := lv_entry ([.int a1]) (n := 1) (Nat.le_of_ble_eq_true rfl)
  rw [lg_entry_eq]
  generalize (lg_sl ([.int a1]) ++ List.replicate (1 - (lg_sl ([.int a1])).length) Slot.unset).toArray = ls at hl ⊢
  have hl : lv_has ls 1 [(0, .int a1)] := hl
  refine lv_iload_n hx hb dX4_lesserRoof_0 rfl (lv_at hl 0 rfl) ?_
  refine lv_bipush (v := 16) hx hb dX4_lesserRoof_1 (by decide) ?_
  refine lv_icmp_ge (tgt := 10) hx hb dX4_lesserRoof_3 (by decide) (fun c_1 => ?_) (fun c_1 => ?_)
  · refine lv_iload_n hx hb dX4_lesserRoof_10 rfl (lv_at hl 0 rfl) ?_
    refine lv_bipush (v := 16) hx hb dX4_lesserRoof_11 (by decide) ?_
    refine lv_isub hx hb dX4_lesserRoof_13 ?_
    have e9 : (a1 - 16) = (pX4_lesserRoof a1) := by simp only [pX4_lesserRoof, if_pos c_1]
    exact W.iret (v := (a1 - 16)) hx hb hr (fun t ht hW => ⟨_, rfl, e9, ht⟩) (fun _ h => absurd h List.not_mem_nil) dX4_lesserRoof_14
  · refine lv_iload_n hx hb dX4_lesserRoof_6 rfl (lv_at hl 0 rfl) ?_
    refine lv_goto (tgt := 14) hx hb dX4_lesserRoof_7 (by decide) ?_
    have e9 : a1 = (pX4_lesserRoof a1) := by simp only [pX4_lesserRoof, if_neg c_1]
    exact W.iret (v := a1) hx hb hr (fun t ht hW => ⟨_, rfl, e9, ht⟩) (fun _ h => absurd h List.not_mem_nil) dX4_lesserRoof_14
theorem bS_X4_lesserRoof : BS yX4_lesserRoof cX4_lesserRoof 1 (some .int) 1 := ⟨wcd_X4_lesserRoof, wst_X4_lesserRoof, win_RX4, by decide +kernel⟩
def pX4_greaterRoof (a1 : Int32) : Int32 := (if 16 ≤ a1 then ((pX4_lesserRoof a1) + 4) else ((pX4_lesserRoof a1) + 1))
set_option maxHeartbeats 4000000 in
set_option maxRecDepth 100000 in
theorem kX4_greaterRoof (l : Launch) (D : va_G) (cyC cyI cyO : ClassId) (a1 : Int32) : RO l yX4_greaterRoof (Ty yX4_greaterRoof cX4_greaterRoof 1 (some .int)) ({ frames := 1, cells := 0, slots := 0, locals := 20 } : Room) D cyC cyI cyO [] [.int a1] (pX4_greaterRoof a1) := by
  refine Met.ofW (cc := cX4_greaterRoof) (maxL := 1) (ret := (some .int)) (by decide) rfl ?_
  intro p e s m args below meth cd s₁ B hml hv
  obtain ⟨rfl, hP, hK⟩ := hv
  have hx := B.exec
  have hb := B.bytes
  have hr := B.returns
  have hts : ∀ w ∈ TB, w.before ([.int a1] : List Value).toArray s = true := fun w h => atoms_spec (ws := (Ty yX4_greaterRoof cX4_greaterRoof 1 (some .int))) B.pre w (List.mem_cons_of_mem _ h)
  have hown : s.vm.findClass RX4 = some m.cls := findClass_of_methodNamed B.named
  have hlocks := B.notSynchronized
  have hl := lv_entry ([.int a1]) (n := 1) (Nat.le_of_ble_eq_true rfl)
  rw [lg_entry_eq]
  generalize (lg_sl ([.int a1]) ++ List.replicate (1 - (lg_sl ([.int a1])).length) Slot.unset).toArray = ls at hl ⊢
  have hl : lv_has ls 1 [(0, .int a1)] := hl
  refine lv_iload_n hx hb dX4_greaterRoof_0 rfl (lv_at hl 0 rfl) ?_
  refine rS (As := [.int a1]) (rest := []) hx hb hml hown hts hl.1 (kX4_lesserRoof l D cyC cyI cyO a1) bS_X4_lesserRoof  wml_RX4_13 ⟨rfl, rfl⟩ ⟨Nat.le_of_ble_eq_true rfl, Nat.le_of_ble_eq_true rfl, Nat.zero_le _, Nat.zero_le _⟩ [] rfl hP hK rfl rfl (Nat.le_of_ble_eq_true rfl) dX4_greaterRoof_1 ?_
  refine lv_iload_n hx hb dX4_greaterRoof_4 rfl (lv_at hl 0 rfl) ?_
  refine lv_bipush (v := 16) hx hb dX4_greaterRoof_5 (by decide) ?_
  refine lv_icmp_ge (tgt := 14) hx hb dX4_greaterRoof_7 (by decide) (fun c_1 => ?_) (fun c_1 => ?_)
  · refine lv_iconst (v := 4) hx hb dX4_greaterRoof_14 (by decide) ?_
    refine lv_iadd hx hb dX4_greaterRoof_15 ?_
    have e9 : ((pX4_lesserRoof a1) + 4) = (pX4_greaterRoof a1) := by simp only [pX4_greaterRoof, if_pos c_1]
    exact W.iret (v := ((pX4_lesserRoof a1) + 4)) hx hb hr (fun t ht hW => ⟨_, rfl, e9, ht⟩) (fun _ h => absurd h List.not_mem_nil) dX4_greaterRoof_16
  · refine lv_iconst (v := 1) hx hb dX4_greaterRoof_10 (by decide) ?_
    refine lv_goto (tgt := 15) hx hb dX4_greaterRoof_11 (by decide) ?_
    refine lv_iadd hx hb dX4_greaterRoof_15 ?_
    have e9 : ((pX4_lesserRoof a1) + 1) = (pX4_greaterRoof a1) := by simp only [pX4_greaterRoof, if_neg c_1]
    exact W.iret (v := ((pX4_lesserRoof a1) + 1)) hx hb hr (fun t ht hW => ⟨_, rfl, e9, ht⟩) (fun _ h => absurd h List.not_mem_nil) dX4_greaterRoof_16
theorem bS_X4_greaterRoof : BS yX4_greaterRoof cX4_greaterRoof 1 (some .int) 1 := ⟨wcd_X4_greaterRoof, wst_X4_greaterRoof, win_RX4, by decide +kernel⟩
def pX4_roofsOf (a1 : Int32) : Int32 := ((1 <<< ((pX4_lesserRoof a1) &&& 31)) ||| (1 <<< ((pX4_greaterRoof a1) &&& 31)))
set_option maxHeartbeats 4000000 in
set_option maxRecDepth 100000 in
theorem kX4_roofsOf (l : Launch) (D : va_G) (cyC cyI cyO : ClassId) (a1 : Int32) : RO l yX4_roofsOf (Ty yX4_roofsOf cX4_roofsOf 1 (some .int)) ({ frames := 2, cells := 0, slots := 0, locals := 40 } : Room) D cyC cyI cyO [] [.int a1] (pX4_roofsOf a1) := by
  refine Met.ofW (cc := cX4_roofsOf) (maxL := 1) (ret := (some .int)) (by decide) rfl ?_
  intro p e s m args below meth cd s₁ B hml hv
  obtain ⟨rfl, hP, hK⟩ := hv
  have hx := B.exec
  have hb := B.bytes
  have hr := B.returns
  have hts : ∀ w ∈ TB, w.before ([.int a1] : List Value).toArray s = true := fun w h => atoms_spec (ws := (Ty yX4_roofsOf cX4_roofsOf 1 (some .int))) B.pre w (List.mem_cons_of_mem _ h)
  have hown : s.vm.findClass RX4 = some m.cls := findClass_of_methodNamed B.named
  have hlocks := B.notSynchronized
  have hl := lv_entry ([.int a1]) (n := 1) (Nat.le_of_ble_eq_true rfl)
  rw [lg_entry_eq]
  generalize (lg_sl ([.int a1]) ++ List.replicate (1 - (lg_sl ([.int a1])).length) Slot.unset).toArray = ls at hl ⊢
  have hl : lv_has ls 1 [(0, .int a1)] := hl
  refine lv_iconst (v := 1) hx hb dX4_roofsOf_0 (by decide) ?_
  refine lv_iload_n hx hb dX4_roofsOf_1 rfl (lv_at hl 0 rfl) ?_
  refine rS (As := [.int a1]) (rest := [.int 1]) hx hb hml hown hts hl.1 (kX4_lesserRoof l D cyC cyI cyO a1) bS_X4_lesserRoof  wml_RX4_13 ⟨rfl, rfl⟩ ⟨Nat.le_of_ble_eq_true rfl, Nat.le_of_ble_eq_true rfl, Nat.zero_le _, Nat.zero_le _⟩ [] rfl hP hK rfl rfl (Nat.le_of_ble_eq_true rfl) dX4_roofsOf_2 ?_
  refine lv_ishl hx hb dX4_roofsOf_5 ?_
  refine lv_iconst (v := 1) hx hb dX4_roofsOf_6 (by decide) ?_
  refine lv_iload_n hx hb dX4_roofsOf_7 rfl (lv_at hl 0 rfl) ?_
  refine rS (As := [.int a1]) (rest := [.int 1, .int (1 <<< ((pX4_lesserRoof a1) &&& 31))]) hx hb hml hown hts hl.1 (kX4_greaterRoof l D cyC cyI cyO a1) bS_X4_greaterRoof  wml_RX4_19 ⟨rfl, rfl⟩ ⟨Nat.le_of_ble_eq_true rfl, Nat.le_of_ble_eq_true rfl, Nat.zero_le _, Nat.zero_le _⟩ [] rfl hP hK rfl rfl (Nat.le_of_ble_eq_true rfl) dX4_roofsOf_8 ?_
  refine lv_ishl hx hb dX4_roofsOf_11 ?_
  refine lv_ior hx hb dX4_roofsOf_12 ?_
  have e9 : ((1 <<< ((pX4_lesserRoof a1) &&& 31)) ||| (1 <<< ((pX4_greaterRoof a1) &&& 31))) = (pX4_roofsOf a1) := rfl
  exact W.iret (v := ((1 <<< ((pX4_lesserRoof a1) &&& 31)) ||| (1 <<< ((pX4_greaterRoof a1) &&& 31)))) hx hb hr (fun t ht hW => ⟨_, rfl, e9, ht⟩) (fun _ h => absurd h List.not_mem_nil) dX4_roofsOf_13
theorem bS_X4_roofsOf : BS yX4_roofsOf cX4_roofsOf 1 (some .int) 1 := ⟨wcd_X4_roofsOf, wst_X4_roofsOf, win_RX4, by decide +kernel⟩
def pX4_otherRoof (a1 : Int32) (a2 : Int32) : Int32 := (if a2 = (pX4_lesserRoof a1) then (pX4_greaterRoof a1) else (pX4_lesserRoof a1))
set_option maxHeartbeats 4000000 in
set_option maxRecDepth 100000 in
theorem kX4_otherRoof (l : Launch) (D : va_G) (cyC cyI cyO : ClassId) (a1 : Int32) (a2 : Int32) : RO l yX4_otherRoof (Ty yX4_otherRoof cX4_otherRoof 2 (some .int)) ({ frames := 2, cells := 0, slots := 0, locals := 40 } : Room) D cyC cyI cyO [] [.int a1, .int a2] (pX4_otherRoof a1 a2) := by
  refine Met.ofW (cc := cX4_otherRoof) (maxL := 2) (ret := (some .int)) (by decide) rfl ?_
  intro p e s m args below meth cd s₁ B hml hv
  obtain ⟨rfl, hP, hK⟩ := hv
  have hx := B.exec
  have hb := B.bytes
  have hr := B.returns
  have hts : ∀ w ∈ TB, w.before ([.int a1, .int a2] : List Value).toArray s = true := fun w h => atoms_spec (ws := (Ty yX4_otherRoof cX4_otherRoof 2 (some .int))) B.pre w (List.mem_cons_of_mem _ h)
  have hown : s.vm.findClass RX4 = some m.cls := findClass_of_methodNamed B.named
  have hlocks := B.notSynchronized
  have hl := lv_entry ([.int a1, .int a2]) (n := 2) (Nat.le_of_ble_eq_true rfl)
  rw [lg_entry_eq]
  generalize (lg_sl ([.int a1, .int a2]) ++ List.replicate (2 - (lg_sl ([.int a1, .int a2])).length) Slot.unset).toArray = ls at hl ⊢
  have hl : lv_has ls 2 [(0, .int a1), (1, .int a2)] := hl
  refine lv_iload_n hx hb dX4_otherRoof_0 rfl (lv_at hl 1 rfl) ?_
  refine lv_iload_n hx hb dX4_otherRoof_1 rfl (lv_at hl 0 rfl) ?_
  refine rS (As := [.int a1]) (rest := [.int a2]) hx hb hml hown hts hl.1 (kX4_lesserRoof l D cyC cyI cyO a1) bS_X4_lesserRoof  wml_RX4_13 ⟨rfl, rfl⟩ ⟨Nat.le_of_ble_eq_true rfl, Nat.le_of_ble_eq_true rfl, Nat.zero_le _, Nat.zero_le _⟩ [] rfl hP hK rfl rfl (Nat.le_of_ble_eq_true rfl) dX4_otherRoof_2 ?_
  refine lv_icmp_ne (tgt := 15) hx hb dX4_otherRoof_5 (by decide) (fun c_1 => ?_) (fun c_1 => ?_)
  · refine lv_iload_n hx hb dX4_otherRoof_15 rfl (lv_at hl 0 rfl) ?_
    refine rS (As := [.int a1]) (rest := []) hx hb hml hown hts hl.1 (kX4_lesserRoof l D cyC cyI cyO a1) bS_X4_lesserRoof  wml_RX4_13 ⟨rfl, rfl⟩ ⟨Nat.le_of_ble_eq_true rfl, Nat.le_of_ble_eq_true rfl, Nat.zero_le _, Nat.zero_le _⟩ [] rfl hP hK rfl rfl (Nat.le_of_ble_eq_true rfl) dX4_otherRoof_16 ?_
    have e9 : (pX4_lesserRoof a1) = (pX4_otherRoof a1 a2) := by simp only [pX4_otherRoof, if_neg c_1]
    exact W.iret (v := (pX4_lesserRoof a1)) hx hb hr (fun t ht hW => ⟨_, rfl, e9, ht⟩) (fun _ h => absurd h List.not_mem_nil) dX4_otherRoof_19
  · refine lv_iload_n hx hb dX4_otherRoof_8 rfl (lv_at hl 0 rfl) ?_
    refine rS (As := [.int a1]) (rest := []) hx hb hml hown hts hl.1 (kX4_greaterRoof l D cyC cyI cyO a1) bS_X4_greaterRoof  wml_RX4_19 ⟨rfl, rfl⟩ ⟨Nat.le_of_ble_eq_true rfl, Nat.le_of_ble_eq_true rfl, Nat.zero_le _, Nat.zero_le _⟩ [] rfl hP hK rfl rfl (Nat.le_of_ble_eq_true rfl) dX4_otherRoof_9 ?_
    refine lv_goto (tgt := 19) hx hb dX4_otherRoof_12 (by decide) ?_
    have e9 : (pX4_greaterRoof a1) = (pX4_otherRoof a1 a2) := by simp only [pX4_otherRoof, if_pos c_1]
    exact W.iret (v := (pX4_greaterRoof a1)) hx hb hr (fun t ht hW => ⟨_, rfl, e9, ht⟩) (fun _ h => absurd h List.not_mem_nil) dX4_otherRoof_19
theorem bS_X4_otherRoof : BS yX4_otherRoof cX4_otherRoof 2 (some .int) 2 := ⟨wcd_X4_otherRoof, wst_X4_otherRoof, win_RX4, by decide +kernel⟩
def pX4_gangwaysOf_L4 (a1 : Int32) : Nat → Int32 := fo (fun i x_i => (if (pX4_isGangway (nI i)) = 0 then x_i else (if (pX6_isIn (pX4_roofsOf (nI i)) a1) = 0 then x_i else (x_i ||| (1 <<< ((nI i) &&& 31)))))) 0
theorem pX4_gangwaysOf_L4_s (a1 : Int32) (i : Nat) : pX4_gangwaysOf_L4 a1 (i + 1) = (if (pX4_isGangway (nI i)) = 0 then (pX4_gangwaysOf_L4 a1 i) else (if (pX6_isIn (pX4_roofsOf (nI i)) a1) = 0 then (pX4_gangwaysOf_L4 a1 i) else ((pX4_gangwaysOf_L4 a1 i) ||| (1 <<< ((nI i) &&& 31))))) := rfl
def pX4_gangwaysOf (a1 : Int32) : Int32 := (pX4_gangwaysOf_L4 a1 28)
set_option maxHeartbeats 4000000 in
set_option maxRecDepth 100000 in
theorem kX4_gangwaysOf (l : Launch) (D : va_G) (cyC cyI cyO : ClassId) (a1 : Int32) : RO l yX4_gangwaysOf (Ty yX4_gangwaysOf cX4_gangwaysOf 3 (some .int)) ({ frames := 3, cells := 0, slots := 0, locals := 60 } : Room) D cyC cyI cyO [] [.int a1] (pX4_gangwaysOf a1) := by
  refine Met.ofW (cc := cX4_gangwaysOf) (maxL := 3) (ret := (some .int)) (by decide) rfl ?_
  intro p e s m args below meth cd s₁ B hml hv
  obtain ⟨rfl, hP, hK⟩ := hv
  have hx := B.exec
  have hb := B.bytes
  have hr := B.returns
  have hts : ∀ w ∈ TB, w.before ([.int a1] : List Value).toArray s = true := fun w h => atoms_spec (ws := (Ty yX4_gangwaysOf cX4_gangwaysOf 3 (some .int))) B.pre w (List.mem_cons_of_mem _ h)
  have hown : s.vm.findClass RX4 = some m.cls := findClass_of_methodNamed B.named
  have hlocks := B.notSynchronized
  have hl := lv_entry ([.int a1]) (n := 3) (Nat.le_of_ble_eq_true rfl)
  rw [lg_entry_eq]
  generalize (lg_sl ([.int a1]) ++ List.replicate (3 - (lg_sl ([.int a1])).length) Slot.unset).toArray = ls at hl ⊢
  have hl : lv_has ls 3 [(0, .int a1)] := hl
  refine lv_iconst (v := 0) hx hb dX4_gangwaysOf_0 (by decide) ?_
  refine lv_istore_n (lv' := [(1, .int 0), (0, .int a1)]) hx hb dX4_gangwaysOf_1 rfl hl (by decide) rfl (fun ls hl => ?_)
  refine lv_iconst (v := 0) hx hb dX4_gangwaysOf_2 (by decide) ?_
  refine lv_istore_n (lv' := [(2, .int 0), (1, .int 0), (0, .int a1)]) hx hb dX4_gangwaysOf_3 rfl hl (by decide) rfl (fun ls hl => ?_)
  have key_4 : ∀ k i : Nat, i + k = 28 → ∀ (ls : Array Slot), lv_has ls 3 [(0, .int a1), (1, .int (pX4_gangwaysOf_L4 a1 i)), (2, .int (nI i))] → W p l e (headSpec (Ty yX4_gangwaysOf cX4_gangwaysOf 3 (some .int)) ({ frames := 3, cells := 0, slots := 0, locals := 60 } : Room)).room s m ([.int a1] : List Value).toArray below meth cd s.heap [] 0 0 (MQ below (vp_Si (fun x => x = (pX4_gangwaysOf a1))) ([.int a1] : List Value).toArray s 0 0 (fun _ => False)) (F0 m 4 ls []) := by
    intro k
    induction k with
    | zero =>
      intro i hi ls hl
      obtain rfl : i = 28 := hi
      refine lv_iload_n hx hb dX4_gangwaysOf_4 rfl (lv_at hl 2 rfl) ?_
      refine lv_bipush (v := 28) hx hb dX4_gangwaysOf_5 (by decide) ?_
      refine lv_icmp_ge (tgt := 40) hx hb dX4_gangwaysOf_7 (by decide) (fun c_1 => ?_) (fun c_1 => ?_)
      on_goal 2 => exact absurd (le_of (C := 28) (N := 28) (by decide)) c_1
      refine lv_iload_n hx hb dX4_gangwaysOf_40 rfl (lv_at hl 1 rfl) ?_
      have e9 : (pX4_gangwaysOf_L4 a1 28) = (pX4_gangwaysOf a1) := rfl
      exact W.iret (v := (pX4_gangwaysOf_L4 a1 28)) hx hb hr (fun t ht hW => ⟨_, rfl, e9, ht⟩) (fun _ h => absurd h List.not_mem_nil) dX4_gangwaysOf_41
    | succ k ih_4 =>
      intro i hi ls hl
      have hlt : i < 28 := by omega
      refine lv_iload_n hx hb dX4_gangwaysOf_4 rfl (lv_at hl 2 rfl) ?_
      refine lv_bipush (v := 28) hx hb dX4_gangwaysOf_5 (by decide) ?_
      refine lv_icmp_ge (tgt := 40) hx hb dX4_gangwaysOf_7 (by decide) (fun c_2 => ?_) (fun c_2 => ?_)
      on_goal 1 => exact absurd c_2 (nle_of (C := 28) (N := 28) (by decide) hlt (by decide))
      refine lv_iload_n hx hb dX4_gangwaysOf_10 rfl (lv_at hl 2 rfl) ?_
      refine rS (As := [.int (nI i)]) (rest := []) hx hb hml hown hts hl.1 (kX4_isGangway l D cyC cyI cyO (nI i)) bS_X4_isGangway  wml_RX4_22 ⟨rfl, rfl⟩ ⟨Nat.le_of_ble_eq_true rfl, Nat.le_of_ble_eq_true rfl, Nat.zero_le _, Nat.zero_le _⟩ [] rfl hP hK rfl rfl (Nat.le_of_ble_eq_true rfl) dX4_gangwaysOf_11 ?_
      refine lv_if_eq (tgt := 34) hx hb dX4_gangwaysOf_14 (by decide) (fun c_3 => ?_) (fun c_3 => ?_)
      · refine lv_iinc (v := (nI (i + 1))) (lv' := [(2, .int (nI (i + 1))), (0, .int a1), (1, .int (pX4_gangwaysOf_L4 a1 i))]) hx hb dX4_gangwaysOf_34 hl (k := 2) rfl (nI_succ i).symm (by decide) rfl (fun ls hl => ?_)
        refine lv_goto (tgt := 4) hx hb dX4_gangwaysOf_37 (by decide) ?_
        have e8 : pX4_gangwaysOf_L4 a1 (i + 1) = (pX4_gangwaysOf_L4 a1 i) := by rw [pX4_gangwaysOf_L4_s]; simp only [if_pos c_3]
        exact ih_4 (i + 1) (by omega) ls (by rw [e8]; exact lv_sub hl [1, 2, 0] rfl)
      · refine lv_iload_n hx hb dX4_gangwaysOf_17 rfl (lv_at hl 2 rfl) ?_
        refine rS (As := [.int (nI i)]) (rest := []) hx hb hml hown hts hl.1 (kX4_roofsOf l D cyC cyI cyO (nI i)) bS_X4_roofsOf  wml_RX4_26 ⟨rfl, rfl⟩ ⟨Nat.le_of_ble_eq_true rfl, Nat.le_of_ble_eq_true rfl, Nat.zero_le _, Nat.zero_le _⟩ [] rfl hP hK rfl rfl (Nat.le_of_ble_eq_true rfl) dX4_gangwaysOf_18 ?_
        refine lv_iload_n hx hb dX4_gangwaysOf_21 rfl (lv_at hl 0 rfl) ?_
        refine rN (As := [.int (pX4_roofsOf (nI i)), .int a1]) (rest := []) hx hb hml hown hts hl.1 (kX6_isIn l D cyC cyI cyO (pX4_roofsOf (nI i)) a1) bS_X6_isIn  hK.2.2.2.1 ⟨rfl, rfl⟩ ⟨Nat.le_of_ble_eq_true rfl, Nat.le_of_ble_eq_true rfl, Nat.zero_le _, Nat.zero_le _⟩ [] rfl hP hK rfl rfl (Nat.le_of_ble_eq_true rfl) dX4_gangwaysOf_22 ?_
        refine lv_if_eq (tgt := 34) hx hb dX4_gangwaysOf_25 (by decide) (fun c_4 => ?_) (fun c_4 => ?_)
        · refine lv_iinc (v := (nI (i + 1))) (lv' := [(2, .int (nI (i + 1))), (0, .int a1), (1, .int (pX4_gangwaysOf_L4 a1 i))]) hx hb dX4_gangwaysOf_34 hl (k := 2) rfl (nI_succ i).symm (by decide) rfl (fun ls hl => ?_)
          refine lv_goto (tgt := 4) hx hb dX4_gangwaysOf_37 (by decide) ?_
          have e8 : pX4_gangwaysOf_L4 a1 (i + 1) = (pX4_gangwaysOf_L4 a1 i) := by rw [pX4_gangwaysOf_L4_s]; simp only [if_neg c_3, if_pos c_4]
          exact ih_4 (i + 1) (by omega) ls (by rw [e8]; exact lv_sub hl [1, 2, 0] rfl)
        · refine lv_iload_n hx hb dX4_gangwaysOf_28 rfl (lv_at hl 1 rfl) ?_
          refine lv_iconst (v := 1) hx hb dX4_gangwaysOf_29 (by decide) ?_
          refine lv_iload_n hx hb dX4_gangwaysOf_30 rfl (lv_at hl 2 rfl) ?_
          refine lv_ishl hx hb dX4_gangwaysOf_31 ?_
          refine lv_ior hx hb dX4_gangwaysOf_32 ?_
          refine lv_istore_n (lv' := [(1, .int ((pX4_gangwaysOf_L4 a1 i) ||| (1 <<< ((nI i) &&& 31)))), (0, .int a1), (2, .int (nI i))]) hx hb dX4_gangwaysOf_33 rfl hl (by decide) rfl (fun ls hl => ?_)
          refine lv_iinc (v := (nI (i + 1))) (lv' := [(2, .int (nI (i + 1))), (1, .int ((pX4_gangwaysOf_L4 a1 i) ||| (1 <<< ((nI i) &&& 31)))), (0, .int a1)]) hx hb dX4_gangwaysOf_34 hl (k := 2) rfl (nI_succ i).symm (by decide) rfl (fun ls hl => ?_)
          refine lv_goto (tgt := 4) hx hb dX4_gangwaysOf_37 (by decide) ?_
          have e8 : pX4_gangwaysOf_L4 a1 (i + 1) = ((pX4_gangwaysOf_L4 a1 i) ||| (1 <<< ((nI i) &&& 31))) := by rw [pX4_gangwaysOf_L4_s]; simp only [if_neg c_3, if_neg c_4]
          exact ih_4 (i + 1) (by omega) ls (by rw [e8]; exact lv_sub hl [2, 1, 0] rfl)
  exact key_4 28 0 (Nat.zero_add 28) ls (lv_sub hl [2, 1, 0] rfl)
theorem bS_X4_gangwaysOf : BS yX4_gangwaysOf cX4_gangwaysOf 3 (some .int) 1 := ⟨wcd_X4_gangwaysOf, wst_X4_gangwaysOf, win_RX4, by decide +kernel⟩
def pX4_nextRoof (a1 : Int32) (a2 : Int32) : Int32 := (if a2 = 0 then (if 3 ≤ (a1 - a1 / 4 * 4) then (-1) else (a1 + 1)) else (if a2 = 1 then (if 12 ≤ a1 then (-1) else (a1 + 4)) else (if a2 = 2 then (if (a1 - a1 / 4 * 4) ≤ 0 then (-1) else (a1 - 1)) else (if a1 < 4 then (-1) else (a1 - 4)))))
set_option maxHeartbeats 4000000 in
set_option maxRecDepth 100000 in
theorem kX4_nextRoof (l : Launch) (D : va_G) (cyC cyI cyO : ClassId) (a1 : Int32) (a2 : Int32) : RO l yX4_nextRoof (Ty yX4_nextRoof cX4_nextRoof 2 (some .int)) ({ frames := 0, cells := 0, slots := 0, locals := 0 } : Room) D cyC cyI cyO [] [.int a1, .int a2] (pX4_nextRoof a1 a2) := by
  refine Met.ofW (cc := cX4_nextRoof) (maxL := 2) (ret := (some .int)) (by decide) rfl ?_
  intro p e s m args below meth cd s₁ B hml hv
  obtain ⟨rfl, hP, hK⟩ := hv
  have hx := B.exec
  have hb := B.bytes
  have hr := B.returns
  have hts : ∀ w ∈ TB, w.before ([.int a1, .int a2] : List Value).toArray s = true := fun w h => atoms_spec (ws := (Ty yX4_nextRoof cX4_nextRoof 2 (some .int))) B.pre w (List.mem_cons_of_mem _ h)
  have hown : s.vm.findClass RX4 = some m.cls := findClass_of_methodNamed B.named
  have hlocks := B.notSynchronized
  have hl := lv_entry ([.int a1, .int a2]) (n := 2) (Nat.le_of_ble_eq_true rfl)
  rw [lg_entry_eq]
  generalize (lg_sl ([.int a1, .int a2]) ++ List.replicate (2 - (lg_sl ([.int a1, .int a2])).length) Slot.unset).toArray = ls at hl ⊢
  have hl : lv_has ls 2 [(0, .int a1), (1, .int a2)] := hl
  refine lv_iload_n hx hb dX4_nextRoof_0 rfl (lv_at hl 1 rfl) ?_
  by_cases c_1 : a2 = 0
  · refine lv_tableIn (off := 27) (tgt := 28) hx hb dX4_nextRoof_1 (by rw [c_1]; decide) (by rw [c_1]; decide) (by rw [c_1]; rfl) (by decide) ?_
    refine lv_iload_n hx hb dX4_nextRoof_28 rfl (lv_at hl 0 rfl) ?_
    refine lv_iconst (v := 4) hx hb dX4_nextRoof_29 (by decide) ?_
    refine lv_irem hx hb dX4_nextRoof_30 (by decide) ?_
    refine lv_iconst (v := 3) hx hb dX4_nextRoof_31 (by decide) ?_
    refine lv_icmp_ge (tgt := 41) hx hb dX4_nextRoof_32 (by decide) (fun c_4 => ?_) (fun c_4 => ?_)
    · refine lv_iconst (v := (-1)) hx hb dX4_nextRoof_41 (by decide) ?_
      have e9 : (-1) = (pX4_nextRoof a1 a2) := by simp only [pX4_nextRoof, if_pos c_1, if_pos c_4]
      exact W.iret (v := (-1)) hx hb hr (fun t ht hW => ⟨_, rfl, e9, ht⟩) (fun _ h => absurd h List.not_mem_nil) dX4_nextRoof_42
    · refine lv_iload_n hx hb dX4_nextRoof_35 rfl (lv_at hl 0 rfl) ?_
      refine lv_iconst (v := 1) hx hb dX4_nextRoof_36 (by decide) ?_
      refine lv_iadd hx hb dX4_nextRoof_37 ?_
      refine lv_goto (tgt := 42) hx hb dX4_nextRoof_38 (by decide) ?_
      have e9 : (a1 + 1) = (pX4_nextRoof a1 a2) := by simp only [pX4_nextRoof, if_pos c_1, if_neg c_4]
      exact W.iret (v := (a1 + 1)) hx hb hr (fun t ht hW => ⟨_, rfl, e9, ht⟩) (fun _ h => absurd h List.not_mem_nil) dX4_nextRoof_42
  · by_cases c_2 : a2 = 1
    · refine lv_tableIn (off := 42) (tgt := 43) hx hb dX4_nextRoof_1 (by rw [c_2]; decide) (by rw [c_2]; decide) (by rw [c_2]; rfl) (by decide) ?_
      refine lv_iload_n hx hb dX4_nextRoof_43 rfl (lv_at hl 0 rfl) ?_
      refine lv_bipush (v := 12) hx hb dX4_nextRoof_44 (by decide) ?_
      refine lv_icmp_ge (tgt := 55) hx hb dX4_nextRoof_46 (by decide) (fun c_5 => ?_) (fun c_5 => ?_)
      · refine lv_iconst (v := (-1)) hx hb dX4_nextRoof_55 (by decide) ?_
        have e9 : (-1) = (pX4_nextRoof a1 a2) := by simp only [pX4_nextRoof, if_neg c_1, if_pos c_2, if_pos c_5]
        exact W.iret (v := (-1)) hx hb hr (fun t ht hW => ⟨_, rfl, e9, ht⟩) (fun _ h => absurd h List.not_mem_nil) dX4_nextRoof_56
      · refine lv_iload_n hx hb dX4_nextRoof_49 rfl (lv_at hl 0 rfl) ?_
        refine lv_iconst (v := 4) hx hb dX4_nextRoof_50 (by decide) ?_
        refine lv_iadd hx hb dX4_nextRoof_51 ?_
        refine lv_goto (tgt := 56) hx hb dX4_nextRoof_52 (by decide) ?_
        have e9 : (a1 + 4) = (pX4_nextRoof a1 a2) := by simp only [pX4_nextRoof, if_neg c_1, if_pos c_2, if_neg c_5]
        exact W.iret (v := (a1 + 4)) hx hb hr (fun t ht hW => ⟨_, rfl, e9, ht⟩) (fun _ h => absurd h List.not_mem_nil) dX4_nextRoof_56
    · by_cases c_3 : a2 = 2
      · refine lv_tableIn (off := 56) (tgt := 57) hx hb dX4_nextRoof_1 (by rw [c_3]; decide) (by rw [c_3]; decide) (by rw [c_3]; rfl) (by decide) ?_
        refine lv_iload_n hx hb dX4_nextRoof_57 rfl (lv_at hl 0 rfl) ?_
        refine lv_iconst (v := 4) hx hb dX4_nextRoof_58 (by decide) ?_
        refine lv_irem hx hb dX4_nextRoof_59 (by decide) ?_
        refine lv_if_le (tgt := 69) hx hb dX4_nextRoof_60 (by decide) (fun c_6 => ?_) (fun c_6 => ?_)
        · refine lv_iconst (v := (-1)) hx hb dX4_nextRoof_69 (by decide) ?_
          have e9 : (-1) = (pX4_nextRoof a1 a2) := by simp only [pX4_nextRoof, if_neg c_1, if_neg c_2, if_pos c_3, if_pos c_6]
          exact W.iret (v := (-1)) hx hb hr (fun t ht hW => ⟨_, rfl, e9, ht⟩) (fun _ h => absurd h List.not_mem_nil) dX4_nextRoof_70
        · refine lv_iload_n hx hb dX4_nextRoof_63 rfl (lv_at hl 0 rfl) ?_
          refine lv_iconst (v := 1) hx hb dX4_nextRoof_64 (by decide) ?_
          refine lv_isub hx hb dX4_nextRoof_65 ?_
          refine lv_goto (tgt := 70) hx hb dX4_nextRoof_66 (by decide) ?_
          have e9 : (a1 - 1) = (pX4_nextRoof a1 a2) := by simp only [pX4_nextRoof, if_neg c_1, if_neg c_2, if_pos c_3, if_neg c_6]
          exact W.iret (v := (a1 - 1)) hx hb hr (fun t ht hW => ⟨_, rfl, e9, ht⟩) (fun _ h => absurd h List.not_mem_nil) dX4_nextRoof_70
      · have nc_1 : (a2 : Int32).toInt ≠ 0 := fun h => c_1 (Int32.toInt_inj.mp (h.trans (by decide)))
        have nc_2 : (a2 : Int32).toInt ≠ 1 := fun h => c_2 (Int32.toInt_inj.mp (h.trans (by decide)))
        have nc_3 : (a2 : Int32).toInt ≠ 2 := fun h => c_3 (Int32.toInt_inj.mp (h.trans (by decide)))
        refine lv_tableOut (tgt := 71) hx hb dX4_nextRoof_1 (by omega) (by decide) ?_
        refine lv_iload_n hx hb dX4_nextRoof_71 rfl (lv_at hl 0 rfl) ?_
        refine lv_iconst (v := 4) hx hb dX4_nextRoof_72 (by decide) ?_
        refine lv_icmp_lt (tgt := 82) hx hb dX4_nextRoof_73 (by decide) (fun c_7 => ?_) (fun c_7 => ?_)
        · refine lv_iconst (v := (-1)) hx hb dX4_nextRoof_82 (by decide) ?_
          have e9 : (-1) = (pX4_nextRoof a1 a2) := by simp only [pX4_nextRoof, if_neg c_1, if_neg c_2, if_neg c_3, if_pos c_7]
          exact W.iret (v := (-1)) hx hb hr (fun t ht hW => ⟨_, rfl, e9, ht⟩) (fun _ h => absurd h List.not_mem_nil) dX4_nextRoof_83
        · refine lv_iload_n hx hb dX4_nextRoof_76 rfl (lv_at hl 0 rfl) ?_
          refine lv_iconst (v := 4) hx hb dX4_nextRoof_77 (by decide) ?_
          refine lv_isub hx hb dX4_nextRoof_78 ?_
          refine lv_goto (tgt := 83) hx hb dX4_nextRoof_79 (by decide) ?_
          have e9 : (a1 - 4) = (pX4_nextRoof a1 a2) := by simp only [pX4_nextRoof, if_neg c_1, if_neg c_2, if_neg c_3, if_neg c_7]
          exact W.iret (v := (a1 - 4)) hx hb hr (fun t ht hW => ⟨_, rfl, e9, ht⟩) (fun _ h => absurd h List.not_mem_nil) dX4_nextRoof_83
theorem bS_X4_nextRoof : BS yX4_nextRoof cX4_nextRoof 2 (some .int) 2 := ⟨wcd_X4_nextRoof, wst_X4_nextRoof, win_RX4, by decide +kernel⟩
def pJ6_bitCount_0f7a4 (a1 : Int32) : Int32 := ((((((((a1 - (((a1).toUInt32 >>> ((1 : Int32).toUInt32 &&& Int32.toUInt32 31)).toInt32 &&& 1431655765)) &&& 858993459) + ((((a1 - (((a1).toUInt32 >>> ((1 : Int32).toUInt32 &&& Int32.toUInt32 31)).toInt32 &&& 1431655765))).toUInt32 >>> ((2 : Int32).toUInt32 &&& Int32.toUInt32 31)).toInt32 &&& 858993459)) + (((((a1 - (((a1).toUInt32 >>> ((1 : Int32).toUInt32 &&& Int32.toUInt32 31)).toInt32 &&& 1431655765)) &&& 858993459) + ((((a1 - (((a1).toUInt32 >>> ((1 : Int32).toUInt32 &&& Int32.toUInt32 31)).toInt32 &&& 1431655765))).toUInt32 >>> ((2 : Int32).toUInt32 &&& Int32.toUInt32 31)).toInt32 &&& 858993459))).toUInt32 >>> ((4 : Int32).toUInt32 &&& Int32.toUInt32 31)).toInt32) &&& 252645135) + (((((((a1 - (((a1).toUInt32 >>> ((1 : Int32).toUInt32 &&& Int32.toUInt32 31)).toInt32 &&& 1431655765)) &&& 858993459) + ((((a1 - (((a1).toUInt32 >>> ((1 : Int32).toUInt32 &&& Int32.toUInt32 31)).toInt32 &&& 1431655765))).toUInt32 >>> ((2 : Int32).toUInt32 &&& Int32.toUInt32 31)).toInt32 &&& 858993459)) + (((((a1 - (((a1).toUInt32 >>> ((1 : Int32).toUInt32 &&& Int32.toUInt32 31)).toInt32 &&& 1431655765)) &&& 858993459) + ((((a1 - (((a1).toUInt32 >>> ((1 : Int32).toUInt32 &&& Int32.toUInt32 31)).toInt32 &&& 1431655765))).toUInt32 >>> ((2 : Int32).toUInt32 &&& Int32.toUInt32 31)).toInt32 &&& 858993459))).toUInt32 >>> ((4 : Int32).toUInt32 &&& Int32.toUInt32 31)).toInt32) &&& 252645135)).toUInt32 >>> ((8 : Int32).toUInt32 &&& Int32.toUInt32 31)).toInt32) + ((((((((a1 - (((a1).toUInt32 >>> ((1 : Int32).toUInt32 &&& Int32.toUInt32 31)).toInt32 &&& 1431655765)) &&& 858993459) + ((((a1 - (((a1).toUInt32 >>> ((1 : Int32).toUInt32 &&& Int32.toUInt32 31)).toInt32 &&& 1431655765))).toUInt32 >>> ((2 : Int32).toUInt32 &&& Int32.toUInt32 31)).toInt32 &&& 858993459)) + (((((a1 - (((a1).toUInt32 >>> ((1 : Int32).toUInt32 &&& Int32.toUInt32 31)).toInt32 &&& 1431655765)) &&& 858993459) + ((((a1 - (((a1).toUInt32 >>> ((1 : Int32).toUInt32 &&& Int32.toUInt32 31)).toInt32 &&& 1431655765))).toUInt32 >>> ((2 : Int32).toUInt32 &&& Int32.toUInt32 31)).toInt32 &&& 858993459))).toUInt32 >>> ((4 : Int32).toUInt32 &&& Int32.toUInt32 31)).toInt32) &&& 252645135) + (((((((a1 - (((a1).toUInt32 >>> ((1 : Int32).toUInt32 &&& Int32.toUInt32 31)).toInt32 &&& 1431655765)) &&& 858993459) + ((((a1 - (((a1).toUInt32 >>> ((1 : Int32).toUInt32 &&& Int32.toUInt32 31)).toInt32 &&& 1431655765))).toUInt32 >>> ((2 : Int32).toUInt32 &&& Int32.toUInt32 31)).toInt32 &&& 858993459)) + (((((a1 - (((a1).toUInt32 >>> ((1 : Int32).toUInt32 &&& Int32.toUInt32 31)).toInt32 &&& 1431655765)) &&& 858993459) + ((((a1 - (((a1).toUInt32 >>> ((1 : Int32).toUInt32 &&& Int32.toUInt32 31)).toInt32 &&& 1431655765))).toUInt32 >>> ((2 : Int32).toUInt32 &&& Int32.toUInt32 31)).toInt32 &&& 858993459))).toUInt32 >>> ((4 : Int32).toUInt32 &&& Int32.toUInt32 31)).toInt32) &&& 252645135)).toUInt32 >>> ((8 : Int32).toUInt32 &&& Int32.toUInt32 31)).toInt32)).toUInt32 >>> ((16 : Int32).toUInt32 &&& Int32.toUInt32 31)).toInt32) &&& 63)
set_option maxHeartbeats 4000000 in
set_option maxRecDepth 100000 in
theorem kJ6_bitCount_0f7a4 (l : Launch) (D : va_G) (cyC cyI cyO : ClassId) (a1 : Int32) : RO l yJ6_bitCount_0f7a4 (Ty yJ6_bitCount_0f7a4 cJ6_bitCount_0f7a4 1 (some .int)) ({ frames := 0, cells := 0, slots := 0, locals := 0 } : Room) D cyC cyI cyO [] [.int a1] (pJ6_bitCount_0f7a4 a1) := by
  refine Met.ofW (cc := cJ6_bitCount_0f7a4) (maxL := 1) (ret := (some .int)) (by decide) rfl ?_
  intro p e s m args below meth cd s₁ B hml hv
  obtain ⟨rfl, hP, hK⟩ := hv
  have hx := B.exec
  have hb := B.bytes
  have hr := B.returns
  have hts : ∀ w ∈ TB, w.before ([.int a1] : List Value).toArray s = true := fun w h => atoms_spec (ws := (Ty yJ6_bitCount_0f7a4 cJ6_bitCount_0f7a4 1 (some .int))) B.pre w (List.mem_cons_of_mem _ h)
  have hown : s.vm.findClass RJ6 = some m.cls := findClass_of_methodNamed B.named
  have hlocks := B.notSynchronized
  have hl := lv_entry ([.int a1]) (n := 1) (Nat.le_of_ble_eq_true rfl)
  rw [lg_entry_eq]
  generalize (lg_sl ([.int a1]) ++ List.replicate (1 - (lg_sl ([.int a1])).length) Slot.unset).toArray = ls at hl ⊢
  have hl : lv_has ls 1 [(0, .int a1)] := hl
  refine lv_iload_n hx hb dJ6_bitCount_0f7a4_0 rfl (lv_at hl 0 rfl) ?_
  refine lv_iload_n hx hb dJ6_bitCount_0f7a4_1 rfl (lv_at hl 0 rfl) ?_
  refine lv_iconst (v := 1) hx hb dJ6_bitCount_0f7a4_2 (by decide) ?_
  refine lv_iushr (v := ((a1).toUInt32 >>> ((1 : Int32).toUInt32 &&& Int32.toUInt32 31)).toInt32) hx hb dJ6_bitCount_0f7a4_3 rfl ?_
  refine lv_ldcw (v := 1431655765) hx hb hown (hts _ wco_RJ6_265) dJ6_bitCount_0f7a4_4 ?_
  refine lv_iand hx hb dJ6_bitCount_0f7a4_7 ?_
  refine lv_isub hx hb dJ6_bitCount_0f7a4_8 ?_
  refine lv_istore_n (lv' := [(0, .int (a1 - (((a1).toUInt32 >>> ((1 : Int32).toUInt32 &&& Int32.toUInt32 31)).toInt32 &&& 1431655765)))]) hx hb dJ6_bitCount_0f7a4_9 rfl hl (by decide) rfl (fun ls hl => ?_)
  refine lv_iload_n hx hb dJ6_bitCount_0f7a4_10 rfl (lv_at hl 0 rfl) ?_
  refine lv_ldcw (v := 858993459) hx hb hown (hts _ wco_RJ6_266) dJ6_bitCount_0f7a4_11 ?_
  refine lv_iand hx hb dJ6_bitCount_0f7a4_14 ?_
  refine lv_iload_n hx hb dJ6_bitCount_0f7a4_15 rfl (lv_at hl 0 rfl) ?_
  refine lv_iconst (v := 2) hx hb dJ6_bitCount_0f7a4_16 (by decide) ?_
  refine lv_iushr (v := (((a1 - (((a1).toUInt32 >>> ((1 : Int32).toUInt32 &&& Int32.toUInt32 31)).toInt32 &&& 1431655765))).toUInt32 >>> ((2 : Int32).toUInt32 &&& Int32.toUInt32 31)).toInt32) hx hb dJ6_bitCount_0f7a4_17 rfl ?_
  refine lv_ldcw (v := 858993459) hx hb hown (hts _ wco_RJ6_266) dJ6_bitCount_0f7a4_18 ?_
  refine lv_iand hx hb dJ6_bitCount_0f7a4_21 ?_
  refine lv_iadd hx hb dJ6_bitCount_0f7a4_22 ?_
  refine lv_istore_n (lv' := [(0, .int (((a1 - (((a1).toUInt32 >>> ((1 : Int32).toUInt32 &&& Int32.toUInt32 31)).toInt32 &&& 1431655765)) &&& 858993459) + ((((a1 - (((a1).toUInt32 >>> ((1 : Int32).toUInt32 &&& Int32.toUInt32 31)).toInt32 &&& 1431655765))).toUInt32 >>> ((2 : Int32).toUInt32 &&& Int32.toUInt32 31)).toInt32 &&& 858993459)))]) hx hb dJ6_bitCount_0f7a4_23 rfl hl (by decide) rfl (fun ls hl => ?_)
  refine lv_iload_n hx hb dJ6_bitCount_0f7a4_24 rfl (lv_at hl 0 rfl) ?_
  refine lv_iload_n hx hb dJ6_bitCount_0f7a4_25 rfl (lv_at hl 0 rfl) ?_
  refine lv_iconst (v := 4) hx hb dJ6_bitCount_0f7a4_26 (by decide) ?_
  refine lv_iushr (v := (((((a1 - (((a1).toUInt32 >>> ((1 : Int32).toUInt32 &&& Int32.toUInt32 31)).toInt32 &&& 1431655765)) &&& 858993459) + ((((a1 - (((a1).toUInt32 >>> ((1 : Int32).toUInt32 &&& Int32.toUInt32 31)).toInt32 &&& 1431655765))).toUInt32 >>> ((2 : Int32).toUInt32 &&& Int32.toUInt32 31)).toInt32 &&& 858993459))).toUInt32 >>> ((4 : Int32).toUInt32 &&& Int32.toUInt32 31)).toInt32) hx hb dJ6_bitCount_0f7a4_27 rfl ?_
  refine lv_iadd hx hb dJ6_bitCount_0f7a4_28 ?_
  refine lv_ldcw (v := 252645135) hx hb hown (hts _ wco_RJ6_267) dJ6_bitCount_0f7a4_29 ?_
  refine lv_iand hx hb dJ6_bitCount_0f7a4_32 ?_
  refine lv_istore_n (lv' := [(0, .int (((((a1 - (((a1).toUInt32 >>> ((1 : Int32).toUInt32 &&& Int32.toUInt32 31)).toInt32 &&& 1431655765)) &&& 858993459) + ((((a1 - (((a1).toUInt32 >>> ((1 : Int32).toUInt32 &&& Int32.toUInt32 31)).toInt32 &&& 1431655765))).toUInt32 >>> ((2 : Int32).toUInt32 &&& Int32.toUInt32 31)).toInt32 &&& 858993459)) + (((((a1 - (((a1).toUInt32 >>> ((1 : Int32).toUInt32 &&& Int32.toUInt32 31)).toInt32 &&& 1431655765)) &&& 858993459) + ((((a1 - (((a1).toUInt32 >>> ((1 : Int32).toUInt32 &&& Int32.toUInt32 31)).toInt32 &&& 1431655765))).toUInt32 >>> ((2 : Int32).toUInt32 &&& Int32.toUInt32 31)).toInt32 &&& 858993459))).toUInt32 >>> ((4 : Int32).toUInt32 &&& Int32.toUInt32 31)).toInt32) &&& 252645135))]) hx hb dJ6_bitCount_0f7a4_33 rfl hl (by decide) rfl (fun ls hl => ?_)
  refine lv_iload_n hx hb dJ6_bitCount_0f7a4_34 rfl (lv_at hl 0 rfl) ?_
  refine lv_iload_n hx hb dJ6_bitCount_0f7a4_35 rfl (lv_at hl 0 rfl) ?_
  refine lv_bipush (v := 8) hx hb dJ6_bitCount_0f7a4_36 (by decide) ?_
  refine lv_iushr (v := (((((((a1 - (((a1).toUInt32 >>> ((1 : Int32).toUInt32 &&& Int32.toUInt32 31)).toInt32 &&& 1431655765)) &&& 858993459) + ((((a1 - (((a1).toUInt32 >>> ((1 : Int32).toUInt32 &&& Int32.toUInt32 31)).toInt32 &&& 1431655765))).toUInt32 >>> ((2 : Int32).toUInt32 &&& Int32.toUInt32 31)).toInt32 &&& 858993459)) + (((((a1 - (((a1).toUInt32 >>> ((1 : Int32).toUInt32 &&& Int32.toUInt32 31)).toInt32 &&& 1431655765)) &&& 858993459) + ((((a1 - (((a1).toUInt32 >>> ((1 : Int32).toUInt32 &&& Int32.toUInt32 31)).toInt32 &&& 1431655765))).toUInt32 >>> ((2 : Int32).toUInt32 &&& Int32.toUInt32 31)).toInt32 &&& 858993459))).toUInt32 >>> ((4 : Int32).toUInt32 &&& Int32.toUInt32 31)).toInt32) &&& 252645135)).toUInt32 >>> ((8 : Int32).toUInt32 &&& Int32.toUInt32 31)).toInt32) hx hb dJ6_bitCount_0f7a4_38 rfl ?_
  refine lv_iadd hx hb dJ6_bitCount_0f7a4_39 ?_
  refine lv_istore_n (lv' := [(0, .int ((((((a1 - (((a1).toUInt32 >>> ((1 : Int32).toUInt32 &&& Int32.toUInt32 31)).toInt32 &&& 1431655765)) &&& 858993459) + ((((a1 - (((a1).toUInt32 >>> ((1 : Int32).toUInt32 &&& Int32.toUInt32 31)).toInt32 &&& 1431655765))).toUInt32 >>> ((2 : Int32).toUInt32 &&& Int32.toUInt32 31)).toInt32 &&& 858993459)) + (((((a1 - (((a1).toUInt32 >>> ((1 : Int32).toUInt32 &&& Int32.toUInt32 31)).toInt32 &&& 1431655765)) &&& 858993459) + ((((a1 - (((a1).toUInt32 >>> ((1 : Int32).toUInt32 &&& Int32.toUInt32 31)).toInt32 &&& 1431655765))).toUInt32 >>> ((2 : Int32).toUInt32 &&& Int32.toUInt32 31)).toInt32 &&& 858993459))).toUInt32 >>> ((4 : Int32).toUInt32 &&& Int32.toUInt32 31)).toInt32) &&& 252645135) + (((((((a1 - (((a1).toUInt32 >>> ((1 : Int32).toUInt32 &&& Int32.toUInt32 31)).toInt32 &&& 1431655765)) &&& 858993459) + ((((a1 - (((a1).toUInt32 >>> ((1 : Int32).toUInt32 &&& Int32.toUInt32 31)).toInt32 &&& 1431655765))).toUInt32 >>> ((2 : Int32).toUInt32 &&& Int32.toUInt32 31)).toInt32 &&& 858993459)) + (((((a1 - (((a1).toUInt32 >>> ((1 : Int32).toUInt32 &&& Int32.toUInt32 31)).toInt32 &&& 1431655765)) &&& 858993459) + ((((a1 - (((a1).toUInt32 >>> ((1 : Int32).toUInt32 &&& Int32.toUInt32 31)).toInt32 &&& 1431655765))).toUInt32 >>> ((2 : Int32).toUInt32 &&& Int32.toUInt32 31)).toInt32 &&& 858993459))).toUInt32 >>> ((4 : Int32).toUInt32 &&& Int32.toUInt32 31)).toInt32) &&& 252645135)).toUInt32 >>> ((8 : Int32).toUInt32 &&& Int32.toUInt32 31)).toInt32))]) hx hb dJ6_bitCount_0f7a4_40 rfl hl (by decide) rfl (fun ls hl => ?_)
  refine lv_iload_n hx hb dJ6_bitCount_0f7a4_41 rfl (lv_at hl 0 rfl) ?_
  refine lv_iload_n hx hb dJ6_bitCount_0f7a4_42 rfl (lv_at hl 0 rfl) ?_
  refine lv_bipush (v := 16) hx hb dJ6_bitCount_0f7a4_43 (by decide) ?_
  refine lv_iushr (v := ((((((((a1 - (((a1).toUInt32 >>> ((1 : Int32).toUInt32 &&& Int32.toUInt32 31)).toInt32 &&& 1431655765)) &&& 858993459) + ((((a1 - (((a1).toUInt32 >>> ((1 : Int32).toUInt32 &&& Int32.toUInt32 31)).toInt32 &&& 1431655765))).toUInt32 >>> ((2 : Int32).toUInt32 &&& Int32.toUInt32 31)).toInt32 &&& 858993459)) + (((((a1 - (((a1).toUInt32 >>> ((1 : Int32).toUInt32 &&& Int32.toUInt32 31)).toInt32 &&& 1431655765)) &&& 858993459) + ((((a1 - (((a1).toUInt32 >>> ((1 : Int32).toUInt32 &&& Int32.toUInt32 31)).toInt32 &&& 1431655765))).toUInt32 >>> ((2 : Int32).toUInt32 &&& Int32.toUInt32 31)).toInt32 &&& 858993459))).toUInt32 >>> ((4 : Int32).toUInt32 &&& Int32.toUInt32 31)).toInt32) &&& 252645135) + (((((((a1 - (((a1).toUInt32 >>> ((1 : Int32).toUInt32 &&& Int32.toUInt32 31)).toInt32 &&& 1431655765)) &&& 858993459) + ((((a1 - (((a1).toUInt32 >>> ((1 : Int32).toUInt32 &&& Int32.toUInt32 31)).toInt32 &&& 1431655765))).toUInt32 >>> ((2 : Int32).toUInt32 &&& Int32.toUInt32 31)).toInt32 &&& 858993459)) + (((((a1 - (((a1).toUInt32 >>> ((1 : Int32).toUInt32 &&& Int32.toUInt32 31)).toInt32 &&& 1431655765)) &&& 858993459) + ((((a1 - (((a1).toUInt32 >>> ((1 : Int32).toUInt32 &&& Int32.toUInt32 31)).toInt32 &&& 1431655765))).toUInt32 >>> ((2 : Int32).toUInt32 &&& Int32.toUInt32 31)).toInt32 &&& 858993459))).toUInt32 >>> ((4 : Int32).toUInt32 &&& Int32.toUInt32 31)).toInt32) &&& 252645135)).toUInt32 >>> ((8 : Int32).toUInt32 &&& Int32.toUInt32 31)).toInt32)).toUInt32 >>> ((16 : Int32).toUInt32 &&& Int32.toUInt32 31)).toInt32) hx hb dJ6_bitCount_0f7a4_45 rfl ?_
  refine lv_iadd hx hb dJ6_bitCount_0f7a4_46 ?_
  refine lv_istore_n (lv' := [(0, .int (((((((a1 - (((a1).toUInt32 >>> ((1 : Int32).toUInt32 &&& Int32.toUInt32 31)).toInt32 &&& 1431655765)) &&& 858993459) + ((((a1 - (((a1).toUInt32 >>> ((1 : Int32).toUInt32 &&& Int32.toUInt32 31)).toInt32 &&& 1431655765))).toUInt32 >>> ((2 : Int32).toUInt32 &&& Int32.toUInt32 31)).toInt32 &&& 858993459)) + (((((a1 - (((a1).toUInt32 >>> ((1 : Int32).toUInt32 &&& Int32.toUInt32 31)).toInt32 &&& 1431655765)) &&& 858993459) + ((((a1 - (((a1).toUInt32 >>> ((1 : Int32).toUInt32 &&& Int32.toUInt32 31)).toInt32 &&& 1431655765))).toUInt32 >>> ((2 : Int32).toUInt32 &&& Int32.toUInt32 31)).toInt32 &&& 858993459))).toUInt32 >>> ((4 : Int32).toUInt32 &&& Int32.toUInt32 31)).toInt32) &&& 252645135) + (((((((a1 - (((a1).toUInt32 >>> ((1 : Int32).toUInt32 &&& Int32.toUInt32 31)).toInt32 &&& 1431655765)) &&& 858993459) + ((((a1 - (((a1).toUInt32 >>> ((1 : Int32).toUInt32 &&& Int32.toUInt32 31)).toInt32 &&& 1431655765))).toUInt32 >>> ((2 : Int32).toUInt32 &&& Int32.toUInt32 31)).toInt32 &&& 858993459)) + (((((a1 - (((a1).toUInt32 >>> ((1 : Int32).toUInt32 &&& Int32.toUInt32 31)).toInt32 &&& 1431655765)) &&& 858993459) + ((((a1 - (((a1).toUInt32 >>> ((1 : Int32).toUInt32 &&& Int32.toUInt32 31)).toInt32 &&& 1431655765))).toUInt32 >>> ((2 : Int32).toUInt32 &&& Int32.toUInt32 31)).toInt32 &&& 858993459))).toUInt32 >>> ((4 : Int32).toUInt32 &&& Int32.toUInt32 31)).toInt32) &&& 252645135)).toUInt32 >>> ((8 : Int32).toUInt32 &&& Int32.toUInt32 31)).toInt32) + ((((((((a1 - (((a1).toUInt32 >>> ((1 : Int32).toUInt32 &&& Int32.toUInt32 31)).toInt32 &&& 1431655765)) &&& 858993459) + ((((a1 - (((a1).toUInt32 >>> ((1 : Int32).toUInt32 &&& Int32.toUInt32 31)).toInt32 &&& 1431655765))).toUInt32 >>> ((2 : Int32).toUInt32 &&& Int32.toUInt32 31)).toInt32 &&& 858993459)) + (((((a1 - (((a1).toUInt32 >>> ((1 : Int32).toUInt32 &&& Int32.toUInt32 31)).toInt32 &&& 1431655765)) &&& 858993459) + ((((a1 - (((a1).toUInt32 >>> ((1 : Int32).toUInt32 &&& Int32.toUInt32 31)).toInt32 &&& 1431655765))).toUInt32 >>> ((2 : Int32).toUInt32 &&& Int32.toUInt32 31)).toInt32 &&& 858993459))).toUInt32 >>> ((4 : Int32).toUInt32 &&& Int32.toUInt32 31)).toInt32) &&& 252645135) + (((((((a1 - (((a1).toUInt32 >>> ((1 : Int32).toUInt32 &&& Int32.toUInt32 31)).toInt32 &&& 1431655765)) &&& 858993459) + ((((a1 - (((a1).toUInt32 >>> ((1 : Int32).toUInt32 &&& Int32.toUInt32 31)).toInt32 &&& 1431655765))).toUInt32 >>> ((2 : Int32).toUInt32 &&& Int32.toUInt32 31)).toInt32 &&& 858993459)) + (((((a1 - (((a1).toUInt32 >>> ((1 : Int32).toUInt32 &&& Int32.toUInt32 31)).toInt32 &&& 1431655765)) &&& 858993459) + ((((a1 - (((a1).toUInt32 >>> ((1 : Int32).toUInt32 &&& Int32.toUInt32 31)).toInt32 &&& 1431655765))).toUInt32 >>> ((2 : Int32).toUInt32 &&& Int32.toUInt32 31)).toInt32 &&& 858993459))).toUInt32 >>> ((4 : Int32).toUInt32 &&& Int32.toUInt32 31)).toInt32) &&& 252645135)).toUInt32 >>> ((8 : Int32).toUInt32 &&& Int32.toUInt32 31)).toInt32)).toUInt32 >>> ((16 : Int32).toUInt32 &&& Int32.toUInt32 31)).toInt32))]) hx hb dJ6_bitCount_0f7a4_47 rfl hl (by decide) rfl (fun ls hl => ?_)
  refine lv_iload_n hx hb dJ6_bitCount_0f7a4_48 rfl (lv_at hl 0 rfl) ?_
  refine lv_bipush (v := 63) hx hb dJ6_bitCount_0f7a4_49 (by decide) ?_
  refine lv_iand hx hb dJ6_bitCount_0f7a4_51 ?_
  have e9 : ((((((((a1 - (((a1).toUInt32 >>> ((1 : Int32).toUInt32 &&& Int32.toUInt32 31)).toInt32 &&& 1431655765)) &&& 858993459) + ((((a1 - (((a1).toUInt32 >>> ((1 : Int32).toUInt32 &&& Int32.toUInt32 31)).toInt32 &&& 1431655765))).toUInt32 >>> ((2 : Int32).toUInt32 &&& Int32.toUInt32 31)).toInt32 &&& 858993459)) + (((((a1 - (((a1).toUInt32 >>> ((1 : Int32).toUInt32 &&& Int32.toUInt32 31)).toInt32 &&& 1431655765)) &&& 858993459) + ((((a1 - (((a1).toUInt32 >>> ((1 : Int32).toUInt32 &&& Int32.toUInt32 31)).toInt32 &&& 1431655765))).toUInt32 >>> ((2 : Int32).toUInt32 &&& Int32.toUInt32 31)).toInt32 &&& 858993459))).toUInt32 >>> ((4 : Int32).toUInt32 &&& Int32.toUInt32 31)).toInt32) &&& 252645135) + (((((((a1 - (((a1).toUInt32 >>> ((1 : Int32).toUInt32 &&& Int32.toUInt32 31)).toInt32 &&& 1431655765)) &&& 858993459) + ((((a1 - (((a1).toUInt32 >>> ((1 : Int32).toUInt32 &&& Int32.toUInt32 31)).toInt32 &&& 1431655765))).toUInt32 >>> ((2 : Int32).toUInt32 &&& Int32.toUInt32 31)).toInt32 &&& 858993459)) + (((((a1 - (((a1).toUInt32 >>> ((1 : Int32).toUInt32 &&& Int32.toUInt32 31)).toInt32 &&& 1431655765)) &&& 858993459) + ((((a1 - (((a1).toUInt32 >>> ((1 : Int32).toUInt32 &&& Int32.toUInt32 31)).toInt32 &&& 1431655765))).toUInt32 >>> ((2 : Int32).toUInt32 &&& Int32.toUInt32 31)).toInt32 &&& 858993459))).toUInt32 >>> ((4 : Int32).toUInt32 &&& Int32.toUInt32 31)).toInt32) &&& 252645135)).toUInt32 >>> ((8 : Int32).toUInt32 &&& Int32.toUInt32 31)).toInt32) + ((((((((a1 - (((a1).toUInt32 >>> ((1 : Int32).toUInt32 &&& Int32.toUInt32 31)).toInt32 &&& 1431655765)) &&& 858993459) + ((((a1 - (((a1).toUInt32 >>> ((1 : Int32).toUInt32 &&& Int32.toUInt32 31)).toInt32 &&& 1431655765))).toUInt32 >>> ((2 : Int32).toUInt32 &&& Int32.toUInt32 31)).toInt32 &&& 858993459)) + (((((a1 - (((a1).toUInt32 >>> ((1 : Int32).toUInt32 &&& Int32.toUInt32 31)).toInt32 &&& 1431655765)) &&& 858993459) + ((((a1 - (((a1).toUInt32 >>> ((1 : Int32).toUInt32 &&& Int32.toUInt32 31)).toInt32 &&& 1431655765))).toUInt32 >>> ((2 : Int32).toUInt32 &&& Int32.toUInt32 31)).toInt32 &&& 858993459))).toUInt32 >>> ((4 : Int32).toUInt32 &&& Int32.toUInt32 31)).toInt32) &&& 252645135) + (((((((a1 - (((a1).toUInt32 >>> ((1 : Int32).toUInt32 &&& Int32.toUInt32 31)).toInt32 &&& 1431655765)) &&& 858993459) + ((((a1 - (((a1).toUInt32 >>> ((1 : Int32).toUInt32 &&& Int32.toUInt32 31)).toInt32 &&& 1431655765))).toUInt32 >>> ((2 : Int32).toUInt32 &&& Int32.toUInt32 31)).toInt32 &&& 858993459)) + (((((a1 - (((a1).toUInt32 >>> ((1 : Int32).toUInt32 &&& Int32.toUInt32 31)).toInt32 &&& 1431655765)) &&& 858993459) + ((((a1 - (((a1).toUInt32 >>> ((1 : Int32).toUInt32 &&& Int32.toUInt32 31)).toInt32 &&& 1431655765))).toUInt32 >>> ((2 : Int32).toUInt32 &&& Int32.toUInt32 31)).toInt32 &&& 858993459))).toUInt32 >>> ((4 : Int32).toUInt32 &&& Int32.toUInt32 31)).toInt32) &&& 252645135)).toUInt32 >>> ((8 : Int32).toUInt32 &&& Int32.toUInt32 31)).toInt32)).toUInt32 >>> ((16 : Int32).toUInt32 &&& Int32.toUInt32 31)).toInt32) &&& 63) = (pJ6_bitCount_0f7a4 a1) := rfl
  exact W.iret (v := ((((((((a1 - (((a1).toUInt32 >>> ((1 : Int32).toUInt32 &&& Int32.toUInt32 31)).toInt32 &&& 1431655765)) &&& 858993459) + ((((a1 - (((a1).toUInt32 >>> ((1 : Int32).toUInt32 &&& Int32.toUInt32 31)).toInt32 &&& 1431655765))).toUInt32 >>> ((2 : Int32).toUInt32 &&& Int32.toUInt32 31)).toInt32 &&& 858993459)) + (((((a1 - (((a1).toUInt32 >>> ((1 : Int32).toUInt32 &&& Int32.toUInt32 31)).toInt32 &&& 1431655765)) &&& 858993459) + ((((a1 - (((a1).toUInt32 >>> ((1 : Int32).toUInt32 &&& Int32.toUInt32 31)).toInt32 &&& 1431655765))).toUInt32 >>> ((2 : Int32).toUInt32 &&& Int32.toUInt32 31)).toInt32 &&& 858993459))).toUInt32 >>> ((4 : Int32).toUInt32 &&& Int32.toUInt32 31)).toInt32) &&& 252645135) + (((((((a1 - (((a1).toUInt32 >>> ((1 : Int32).toUInt32 &&& Int32.toUInt32 31)).toInt32 &&& 1431655765)) &&& 858993459) + ((((a1 - (((a1).toUInt32 >>> ((1 : Int32).toUInt32 &&& Int32.toUInt32 31)).toInt32 &&& 1431655765))).toUInt32 >>> ((2 : Int32).toUInt32 &&& Int32.toUInt32 31)).toInt32 &&& 858993459)) + (((((a1 - (((a1).toUInt32 >>> ((1 : Int32).toUInt32 &&& Int32.toUInt32 31)).toInt32 &&& 1431655765)) &&& 858993459) + ((((a1 - (((a1).toUInt32 >>> ((1 : Int32).toUInt32 &&& Int32.toUInt32 31)).toInt32 &&& 1431655765))).toUInt32 >>> ((2 : Int32).toUInt32 &&& Int32.toUInt32 31)).toInt32 &&& 858993459))).toUInt32 >>> ((4 : Int32).toUInt32 &&& Int32.toUInt32 31)).toInt32) &&& 252645135)).toUInt32 >>> ((8 : Int32).toUInt32 &&& Int32.toUInt32 31)).toInt32) + ((((((((a1 - (((a1).toUInt32 >>> ((1 : Int32).toUInt32 &&& Int32.toUInt32 31)).toInt32 &&& 1431655765)) &&& 858993459) + ((((a1 - (((a1).toUInt32 >>> ((1 : Int32).toUInt32 &&& Int32.toUInt32 31)).toInt32 &&& 1431655765))).toUInt32 >>> ((2 : Int32).toUInt32 &&& Int32.toUInt32 31)).toInt32 &&& 858993459)) + (((((a1 - (((a1).toUInt32 >>> ((1 : Int32).toUInt32 &&& Int32.toUInt32 31)).toInt32 &&& 1431655765)) &&& 858993459) + ((((a1 - (((a1).toUInt32 >>> ((1 : Int32).toUInt32 &&& Int32.toUInt32 31)).toInt32 &&& 1431655765))).toUInt32 >>> ((2 : Int32).toUInt32 &&& Int32.toUInt32 31)).toInt32 &&& 858993459))).toUInt32 >>> ((4 : Int32).toUInt32 &&& Int32.toUInt32 31)).toInt32) &&& 252645135) + (((((((a1 - (((a1).toUInt32 >>> ((1 : Int32).toUInt32 &&& Int32.toUInt32 31)).toInt32 &&& 1431655765)) &&& 858993459) + ((((a1 - (((a1).toUInt32 >>> ((1 : Int32).toUInt32 &&& Int32.toUInt32 31)).toInt32 &&& 1431655765))).toUInt32 >>> ((2 : Int32).toUInt32 &&& Int32.toUInt32 31)).toInt32 &&& 858993459)) + (((((a1 - (((a1).toUInt32 >>> ((1 : Int32).toUInt32 &&& Int32.toUInt32 31)).toInt32 &&& 1431655765)) &&& 858993459) + ((((a1 - (((a1).toUInt32 >>> ((1 : Int32).toUInt32 &&& Int32.toUInt32 31)).toInt32 &&& 1431655765))).toUInt32 >>> ((2 : Int32).toUInt32 &&& Int32.toUInt32 31)).toInt32 &&& 858993459))).toUInt32 >>> ((4 : Int32).toUInt32 &&& Int32.toUInt32 31)).toInt32) &&& 252645135)).toUInt32 >>> ((8 : Int32).toUInt32 &&& Int32.toUInt32 31)).toInt32)).toUInt32 >>> ((16 : Int32).toUInt32 &&& Int32.toUInt32 31)).toInt32) &&& 63)) hx hb hr (fun t ht hW => ⟨_, rfl, e9, ht⟩) (fun _ h => absurd h List.not_mem_nil) dJ6_bitCount_0f7a4_52
theorem bS_J6_bitCount_0f7a4 : BS yJ6_bitCount_0f7a4 cJ6_bitCount_0f7a4 1 (some .int) 1 := ⟨wcd_J6_bitCount_0f7a4, wst_J6_bitCount_0f7a4, win_RJ6, by decide +kernel⟩
def pJ9_max_7cf53 (a1 : Int32) (a2 : Int32) : Int32 := (if a1 < a2 then a2 else a1)
set_option maxHeartbeats 4000000 in
set_option maxRecDepth 100000 in
theorem kJ9_max_7cf53 (l : Launch) (D : va_G) (cyC cyI cyO : ClassId) (a1 : Int32) (a2 : Int32) : RO l yJ9_max_7cf53 (Ty yJ9_max_7cf53 cJ9_max_7cf53 2 (some .int)) ({ frames := 0, cells := 0, slots := 0, locals := 0 } : Room) D cyC cyI cyO [] [.int a1, .int a2] (pJ9_max_7cf53 a1 a2) := by
  refine Met.ofW (cc := cJ9_max_7cf53) (maxL := 2) (ret := (some .int)) (by decide) rfl ?_
  intro p e s m args below meth cd s₁ B hml hv
  obtain ⟨rfl, hP, hK⟩ := hv
  have hx := B.exec
  have hb := B.bytes
  have hr := B.returns
  have hts : ∀ w ∈ TB, w.before ([.int a1, .int a2] : List Value).toArray s = true := fun w h => atoms_spec (ws := (Ty yJ9_max_7cf53 cJ9_max_7cf53 2 (some .int))) B.pre w (List.mem_cons_of_mem _ h)
  have hown : s.vm.findClass RJ9 = some m.cls := findClass_of_methodNamed B.named
  have hlocks := B.notSynchronized
  have hl := lv_entry ([.int a1, .int a2]) (n := 2) (Nat.le_of_ble_eq_true rfl)
  rw [lg_entry_eq]
  generalize (lg_sl ([.int a1, .int a2]) ++ List.replicate (2 - (lg_sl ([.int a1, .int a2])).length) Slot.unset).toArray = ls at hl ⊢
  have hl : lv_has ls 2 [(0, .int a1), (1, .int a2)] := hl
  refine lv_iload_n hx hb dJ9_max_7cf53_0 rfl (lv_at hl 0 rfl) ?_
  refine lv_iload_n hx hb dJ9_max_7cf53_1 rfl (lv_at hl 1 rfl) ?_
  refine lv_icmp_lt (tgt := 9) hx hb dJ9_max_7cf53_2 (by decide) (fun c_1 => ?_) (fun c_1 => ?_)
  · refine lv_iload_n hx hb dJ9_max_7cf53_9 rfl (lv_at hl 1 rfl) ?_
    have e9 : a2 = (pJ9_max_7cf53 a1 a2) := by simp only [pJ9_max_7cf53, if_pos c_1]
    exact W.iret (v := a2) hx hb hr (fun t ht hW => ⟨_, rfl, e9, ht⟩) (fun _ h => absurd h List.not_mem_nil) dJ9_max_7cf53_10
  · refine lv_iload_n hx hb dJ9_max_7cf53_5 rfl (lv_at hl 0 rfl) ?_
    refine lv_goto (tgt := 10) hx hb dJ9_max_7cf53_6 (by decide) ?_
    have e9 : a1 = (pJ9_max_7cf53 a1 a2) := by simp only [pJ9_max_7cf53, if_neg c_1]
    exact W.iret (v := a1) hx hb hr (fun t ht hW => ⟨_, rfl, e9, ht⟩) (fun _ h => absurd h List.not_mem_nil) dJ9_max_7cf53_10
theorem bS_J9_max_7cf53 : BS yJ9_max_7cf53 cJ9_max_7cf53 2 (some .int) 2 := ⟨wcd_J9_max_7cf53, wst_J9_max_7cf53, win_RJ9, by decide +kernel⟩
def pJ9_min_7cf53 (a1 : Int32) (a2 : Int32) : Int32 := (if a2 < a1 then a2 else a1)
set_option maxHeartbeats 4000000 in
set_option maxRecDepth 100000 in
theorem kJ9_min_7cf53 (l : Launch) (D : va_G) (cyC cyI cyO : ClassId) (a1 : Int32) (a2 : Int32) : RO l yJ9_min_7cf53 (Ty yJ9_min_7cf53 cJ9_min_7cf53 2 (some .int)) ({ frames := 0, cells := 0, slots := 0, locals := 0 } : Room) D cyC cyI cyO [] [.int a1, .int a2] (pJ9_min_7cf53 a1 a2) := by
  refine Met.ofW (cc := cJ9_min_7cf53) (maxL := 2) (ret := (some .int)) (by decide) rfl ?_
  intro p e s m args below meth cd s₁ B hml hv
  obtain ⟨rfl, hP, hK⟩ := hv
  have hx := B.exec
  have hb := B.bytes
  have hr := B.returns
  have hts : ∀ w ∈ TB, w.before ([.int a1, .int a2] : List Value).toArray s = true := fun w h => atoms_spec (ws := (Ty yJ9_min_7cf53 cJ9_min_7cf53 2 (some .int))) B.pre w (List.mem_cons_of_mem _ h)
  have hown : s.vm.findClass RJ9 = some m.cls := findClass_of_methodNamed B.named
  have hlocks := B.notSynchronized
  have hl := lv_entry ([.int a1, .int a2]) (n := 2) (Nat.le_of_ble_eq_true rfl)
  rw [lg_entry_eq]
  generalize (lg_sl ([.int a1, .int a2]) ++ List.replicate (2 - (lg_sl ([.int a1, .int a2])).length) Slot.unset).toArray = ls at hl ⊢
  have hl : lv_has ls 2 [(0, .int a1), (1, .int a2)] := hl
  refine lv_iload_n hx hb dJ9_min_7cf53_0 rfl (lv_at hl 0 rfl) ?_
  refine lv_iload_n hx hb dJ9_min_7cf53_1 rfl (lv_at hl 1 rfl) ?_
  refine lv_icmp_gt (tgt := 9) hx hb dJ9_min_7cf53_2 (by decide) (fun c_1 => ?_) (fun c_1 => ?_)
  · refine lv_iload_n hx hb dJ9_min_7cf53_9 rfl (lv_at hl 1 rfl) ?_
    have e9 : a2 = (pJ9_min_7cf53 a1 a2) := by simp only [pJ9_min_7cf53, if_pos c_1]
    exact W.iret (v := a2) hx hb hr (fun t ht hW => ⟨_, rfl, e9, ht⟩) (fun _ h => absurd h List.not_mem_nil) dJ9_min_7cf53_10
  · refine lv_iload_n hx hb dJ9_min_7cf53_5 rfl (lv_at hl 0 rfl) ?_
    refine lv_goto (tgt := 10) hx hb dJ9_min_7cf53_6 (by decide) ?_
    have e9 : a1 = (pJ9_min_7cf53 a1 a2) := by simp only [pJ9_min_7cf53, if_neg c_1]
    exact W.iret (v := a1) hx hb hr (fun t ht hW => ⟨_, rfl, e9, ht⟩) (fun _ h => absurd h List.not_mem_nil) dJ9_min_7cf53_10
theorem bS_J9_min_7cf53 : BS yJ9_min_7cf53 cJ9_min_7cf53 2 (some .int) 2 := ⟨wcd_J9_min_7cf53, wst_J9_min_7cf53, win_RJ9, by decide +kernel⟩
def pX0_hasLine (u : (Nat → Nat → Int32)) (w : (Nat → Int32)) (a1 : Int32) : Int32 := (if ((u 1) (a1).toNatClampNeg) = (-1) then 0 else 1)
set_option maxHeartbeats 4000000 in
set_option maxRecDepth 100000 in
theorem kX0_hasLine (l : Launch) (D : va_G) (cyC cyI cyO : ClassId) (A : Nat → Nat) (u : (Nat → Nat → Int32)) (w : (Nat → Int32)) (a1 : Int32) (h1 : vp_in a1 28) : RO l yX0_hasLine (Ty yX0_hasLine cX0_hasLine 2 (some .boolean)) ({ frames := 0, cells := 0, slots := 0, locals := 0 } : Room) D cyC cyI cyO (wC cyI A u w) [.ref (A 0), .int a1] (pX0_hasLine u w a1) := by
  refine Met.ofW (cc := cX0_hasLine) (maxL := 2) (ret := (some .boolean)) (by decide) rfl ?_
  intro p e s m args below meth cd s₁ B hml hv
  obtain ⟨rfl, hP, hK⟩ := hv
  have hx := B.exec
  have hb := B.bytes
  have hr := B.returns
  have hts : ∀ w ∈ TB, w.before ([.ref (A 0), .int a1] : List Value).toArray s = true := fun w h => atoms_spec (ws := (Ty yX0_hasLine cX0_hasLine 2 (some .boolean))) B.pre w (List.mem_cons_of_mem _ h)
  have hown : s.vm.findClass RX0 = some m.cls := findClass_of_methodNamed B.named
  have hlocks := B.notSynchronized
  have hl := lv_entry ([.ref (A 0), .int a1]) (n := 2) (Nat.le_of_ble_eq_true rfl)
  rw [lg_entry_eq]
  generalize (lg_sl ([.ref (A 0), .int a1]) ++ List.replicate (2 - (lg_sl ([.ref (A 0), .int a1])).length) Slot.unset).toArray = ls at hl ⊢
  have hl : lv_has ls 2 [(0, .ref (A 0)), (1, .int a1)] := hl
  refine lv_aload_n hx hb dX0_hasLine_0 rfl (lv_at hl 0 rfl) ?_
  refine va_get (D := D) (ci := 0) (v := .ref (A 2)) (C := RX0) (T := TX0) (N := 19) hx hb hts inT_X0 hown hK.1 hP 0 rfl rfl 1 (by decide) (hts _ wfl_RX0_15) (fun _ h9 => h9) rfl dX0_hasLine_1 ?_
  refine lv_iload_n hx hb dX0_hasLine_4 rfl (lv_at hl 1 rfl) ?_
  refine va_iald (D := D) (f := (u 1)) hx hb hK.1 hP 2 1 rfl rfl h1 dX0_hasLine_5 ?_
  refine lv_iconst (v := (-1)) hx hb dX0_hasLine_6 (by decide) ?_
  refine lv_icmp_eq (tgt := 14) hx hb dX0_hasLine_7 (by decide) (fun c_1 => ?_) (fun c_1 => ?_)
  · refine lv_iconst (v := 0) hx hb dX0_hasLine_14 (by decide) ?_
    have e9 : 0 = (pX0_hasLine u w a1) := by simp only [pX0_hasLine, if_pos c_1]
    exact W.zret (ty := .boolean) (v := 0) hx hb hr (by rfl) (fun t ht hW => ⟨_, rfl, e9, ht⟩) (fun _ h => absurd h List.not_mem_nil) dX0_hasLine_15
  · refine lv_iconst (v := 1) hx hb dX0_hasLine_10 (by decide) ?_
    refine lv_goto (tgt := 15) hx hb dX0_hasLine_11 (by decide) ?_
    have e9 : 1 = (pX0_hasLine u w a1) := by simp only [pX0_hasLine, if_neg c_1]
    exact W.zret (ty := .boolean) (v := 1) hx hb hr (by rfl) (fun t ht hW => ⟨_, rfl, e9, ht⟩) (fun _ h => absurd h List.not_mem_nil) dX0_hasLine_15
theorem bV_X0_hasLine : BV RX0 yX0_hasLine cX0_hasLine 2 (some .boolean) 1 := ⟨wcd_X0_hasLine, wim_X0_hasLine, wse_X0_hasLine, win_RX0, by decide +kernel⟩
def pX0_isThere (u : (Nat → Nat → Int32)) (w : (Nat → Int32)) (a1 : Int32) : Int32 := (if ((u 0) (a1).toNatClampNeg) ≤ 0 then 0 else 1)
set_option maxHeartbeats 4000000 in
set_option maxRecDepth 100000 in
theorem kX0_isThere (l : Launch) (D : va_G) (cyC cyI cyO : ClassId) (A : Nat → Nat) (u : (Nat → Nat → Int32)) (w : (Nat → Int32)) (a1 : Int32) (h1 : vp_in a1 28) : RO l yX0_isThere (Ty yX0_isThere cX0_isThere 2 (some .boolean)) ({ frames := 0, cells := 0, slots := 0, locals := 0 } : Room) D cyC cyI cyO (wC cyI A u w) [.ref (A 0), .int a1] (pX0_isThere u w a1) := by
  refine Met.ofW (cc := cX0_isThere) (maxL := 2) (ret := (some .boolean)) (by decide) rfl ?_
  intro p e s m args below meth cd s₁ B hml hv
  obtain ⟨rfl, hP, hK⟩ := hv
  have hx := B.exec
  have hb := B.bytes
  have hr := B.returns
  have hts : ∀ w ∈ TB, w.before ([.ref (A 0), .int a1] : List Value).toArray s = true := fun w h => atoms_spec (ws := (Ty yX0_isThere cX0_isThere 2 (some .boolean))) B.pre w (List.mem_cons_of_mem _ h)
  have hown : s.vm.findClass RX0 = some m.cls := findClass_of_methodNamed B.named
  have hlocks := B.notSynchronized
  have hl := lv_entry ([.ref (A 0), .int a1]) (n := 2) (Nat.le_of_ble_eq_true rfl)
  rw [lg_entry_eq]
  generalize (lg_sl ([.ref (A 0), .int a1]) ++ List.replicate (2 - (lg_sl ([.ref (A 0), .int a1])).length) Slot.unset).toArray = ls at hl ⊢
  have hl : lv_has ls 2 [(0, .ref (A 0)), (1, .int a1)] := hl
  refine lv_aload_n hx hb dX0_isThere_0 rfl (lv_at hl 0 rfl) ?_
  refine va_get (D := D) (ci := 0) (v := .ref (A 1)) (C := RX0) (T := TX0) (N := 19) hx hb hts inT_X0 hown hK.1 hP 0 rfl rfl 0 (by decide) (hts _ wfl_RX0_9) (fun _ h9 => h9) rfl dX0_isThere_1 ?_
  refine lv_iload_n hx hb dX0_isThere_4 rfl (lv_at hl 1 rfl) ?_
  refine va_iald (D := D) (f := (u 0)) hx hb hK.1 hP 1 1 rfl rfl h1 dX0_isThere_5 ?_
  refine lv_if_le (tgt := 13) hx hb dX0_isThere_6 (by decide) (fun c_1 => ?_) (fun c_1 => ?_)
  · refine lv_iconst (v := 0) hx hb dX0_isThere_13 (by decide) ?_
    have e9 : 0 = (pX0_isThere u w a1) := by simp only [pX0_isThere, if_pos c_1]
    exact W.zret (ty := .boolean) (v := 0) hx hb hr (by rfl) (fun t ht hW => ⟨_, rfl, e9, ht⟩) (fun _ h => absurd h List.not_mem_nil) dX0_isThere_14
  · refine lv_iconst (v := 1) hx hb dX0_isThere_9 (by decide) ?_
    refine lv_goto (tgt := 14) hx hb dX0_isThere_10 (by decide) ?_
    have e9 : 1 = (pX0_isThere u w a1) := by simp only [pX0_isThere, if_neg c_1]
    exact W.zret (ty := .boolean) (v := 1) hx hb hr (by rfl) (fun t ht hW => ⟨_, rfl, e9, ht⟩) (fun _ h => absurd h List.not_mem_nil) dX0_isThere_14
theorem bV_X0_isThere : BV RX0 yX0_isThere cX0_isThere 2 (some .boolean) 1 := ⟨wcd_X0_isThere, wim_X0_isThere, wse_X0_isThere, win_RX0, by decide +kernel⟩
def pX0_allLines_L4 (u : (Nat → Nat → Int32)) (w : (Nat → Int32)) : Nat → Int32 := fo (fun i x_i => (if (pX0_hasLine u w (nI i)) = 0 then x_i else (x_i ||| (1 <<< ((nI i) &&& 31))))) 0
theorem pX0_allLines_L4_s (u : (Nat → Nat → Int32)) (w : (Nat → Int32)) (i : Nat) : pX0_allLines_L4 u w (i + 1) = (if (pX0_hasLine u w (nI i)) = 0 then (pX0_allLines_L4 u w i) else ((pX0_allLines_L4 u w i) ||| (1 <<< ((nI i) &&& 31)))) := rfl
def pX0_allLines (u : (Nat → Nat → Int32)) (w : (Nat → Int32)) : Int32 := (pX0_allLines_L4 u w 28)
set_option maxHeartbeats 4000000 in
set_option maxRecDepth 100000 in
theorem kX0_allLines (l : Launch) (D : va_G) (cyC cyI cyO : ClassId) (A : Nat → Nat) (u : (Nat → Nat → Int32)) (w : (Nat → Int32)) : RO l yX0_allLines (Ty yX0_allLines cX0_allLines 3 (some .int)) ({ frames := 1, cells := 0, slots := 0, locals := 21 } : Room) D cyC cyI cyO (wC cyI A u w) [.ref (A 0)] (pX0_allLines u w) := by
  refine Met.ofW (cc := cX0_allLines) (maxL := 3) (ret := (some .int)) (by decide) rfl ?_
  intro p e s m args below meth cd s₁ B hml hv
  obtain ⟨rfl, hP, hK⟩ := hv
  have hx := B.exec
  have hb := B.bytes
  have hr := B.returns
  have hts : ∀ w ∈ TB, w.before ([.ref (A 0)] : List Value).toArray s = true := fun w h => atoms_spec (ws := (Ty yX0_allLines cX0_allLines 3 (some .int))) B.pre w (List.mem_cons_of_mem _ h)
  have hown : s.vm.findClass RX0 = some m.cls := findClass_of_methodNamed B.named
  have hlocks := B.notSynchronized
  have hl := lv_entry ([.ref (A 0)]) (n := 3) (Nat.le_of_ble_eq_true rfl)
  rw [lg_entry_eq]
  generalize (lg_sl ([.ref (A 0)]) ++ List.replicate (3 - (lg_sl ([.ref (A 0)])).length) Slot.unset).toArray = ls at hl ⊢
  have hl : lv_has ls 3 [(0, .ref (A 0))] := hl
  refine lv_iconst (v := 0) hx hb dX0_allLines_0 (by decide) ?_
  refine lv_istore_n (lv' := [(1, .int 0), (0, .ref (A 0))]) hx hb dX0_allLines_1 rfl hl (by decide) rfl (fun ls hl => ?_)
  refine lv_iconst (v := 0) hx hb dX0_allLines_2 (by decide) ?_
  refine lv_istore_n (lv' := [(2, .int 0), (1, .int 0), (0, .ref (A 0))]) hx hb dX0_allLines_3 rfl hl (by decide) rfl (fun ls hl => ?_)
  have key_4 : ∀ k i : Nat, i + k = 28 → ∀ (ls : Array Slot), lv_has ls 3 [(0, .ref (A 0)), (1, .int (pX0_allLines_L4 u w i)), (2, .int (nI i))] → W p l e (headSpec (Ty yX0_allLines cX0_allLines 3 (some .int)) ({ frames := 1, cells := 0, slots := 0, locals := 21 } : Room)).room s m ([.ref (A 0)] : List Value).toArray below meth cd s.heap [] 0 0 (MQ below (vp_Si (fun x => x = (pX0_allLines u w))) ([.ref (A 0)] : List Value).toArray s 0 0 (fun _ => False)) (F0 m 4 ls []) := by
    intro k
    induction k with
    | zero =>
      intro i hi ls hl
      obtain rfl : i = 28 := hi
      refine lv_iload_n hx hb dX0_allLines_4 rfl (lv_at hl 2 rfl) ?_
      refine lv_bipush (v := 28) hx hb dX0_allLines_5 (by decide) ?_
      refine lv_icmp_ge (tgt := 30) hx hb dX0_allLines_7 (by decide) (fun c_1 => ?_) (fun c_1 => ?_)
      on_goal 2 => exact absurd (le_of (C := 28) (N := 28) (by decide)) c_1
      refine lv_iload_n hx hb dX0_allLines_30 rfl (lv_at hl 1 rfl) ?_
      have e9 : (pX0_allLines_L4 u w 28) = (pX0_allLines u w) := rfl
      exact W.iret (v := (pX0_allLines_L4 u w 28)) hx hb hr (fun t ht hW => ⟨_, rfl, e9, ht⟩) (fun _ h => absurd h List.not_mem_nil) dX0_allLines_31
    | succ k ih_4 =>
      intro i hi ls hl
      have hlt : i < 28 := by omega
      refine lv_iload_n hx hb dX0_allLines_4 rfl (lv_at hl 2 rfl) ?_
      refine lv_bipush (v := 28) hx hb dX0_allLines_5 (by decide) ?_
      refine lv_icmp_ge (tgt := 30) hx hb dX0_allLines_7 (by decide) (fun c_2 => ?_) (fun c_2 => ?_)
      on_goal 1 => exact absurd c_2 (nle_of (C := 28) (N := 28) (by decide) hlt (by decide))
      refine lv_aload_n hx hb dX0_allLines_10 rfl (lv_at hl 0 rfl) ?_
      refine lv_iload_n hx hb dX0_allLines_11 rfl (lv_at hl 2 rfl) ?_
      refine rV (As := [.int (nI i)]) (rest := []) hx hb hml hown hts hl.1 (kX0_hasLine l D cyC cyI cyO A u w (nI i) (vp_in_nI (Nat.lt_of_lt_of_le hlt (by decide)) (by decide))) bV_X0_hasLine  wml_RX0_89 ⟨rfl, rfl⟩ ⟨Nat.le_of_ble_eq_true rfl, Nat.le_of_ble_eq_true rfl, Nat.zero_le _, Nat.zero_le _⟩ [0, 1, 2, 3, 4, 5, 6, 7, 8] rfl hP hK 0 rfl rfl rfl rfl rfl (Nat.le_of_ble_eq_true rfl) dX0_allLines_12 ?_
      refine lv_if_eq (tgt := 24) hx hb dX0_allLines_15 (by decide) (fun c_3 => ?_) (fun c_3 => ?_)
      · refine lv_iinc (v := (nI (i + 1))) (lv' := [(2, .int (nI (i + 1))), (0, .ref (A 0)), (1, .int (pX0_allLines_L4 u w i))]) hx hb dX0_allLines_24 hl (k := 2) rfl (nI_succ i).symm (by decide) rfl (fun ls hl => ?_)
        refine lv_goto (tgt := 4) hx hb dX0_allLines_27 (by decide) ?_
        have e8 : pX0_allLines_L4 u w (i + 1) = (pX0_allLines_L4 u w i) := by rw [pX0_allLines_L4_s]; simp only [if_pos c_3]
        exact ih_4 (i + 1) (by omega) ls (by rw [e8]; exact lv_sub hl [1, 2, 0] rfl)
      · refine lv_iload_n hx hb dX0_allLines_18 rfl (lv_at hl 1 rfl) ?_
        refine lv_iconst (v := 1) hx hb dX0_allLines_19 (by decide) ?_
        refine lv_iload_n hx hb dX0_allLines_20 rfl (lv_at hl 2 rfl) ?_
        refine lv_ishl hx hb dX0_allLines_21 ?_
        refine lv_ior hx hb dX0_allLines_22 ?_
        refine lv_istore_n (lv' := [(1, .int ((pX0_allLines_L4 u w i) ||| (1 <<< ((nI i) &&& 31)))), (0, .ref (A 0)), (2, .int (nI i))]) hx hb dX0_allLines_23 rfl hl (by decide) rfl (fun ls hl => ?_)
        refine lv_iinc (v := (nI (i + 1))) (lv' := [(2, .int (nI (i + 1))), (1, .int ((pX0_allLines_L4 u w i) ||| (1 <<< ((nI i) &&& 31)))), (0, .ref (A 0))]) hx hb dX0_allLines_24 hl (k := 2) rfl (nI_succ i).symm (by decide) rfl (fun ls hl => ?_)
        refine lv_goto (tgt := 4) hx hb dX0_allLines_27 (by decide) ?_
        have e8 : pX0_allLines_L4 u w (i + 1) = ((pX0_allLines_L4 u w i) ||| (1 <<< ((nI i) &&& 31))) := by rw [pX0_allLines_L4_s]; simp only [if_neg c_3]
        exact ih_4 (i + 1) (by omega) ls (by rw [e8]; exact lv_sub hl [2, 1, 0] rfl)
  exact key_4 28 0 (Nat.zero_add 28) ls (lv_sub hl [2, 1, 0] rfl)
theorem bV_X0_allLines : BV RX0 yX0_allLines cX0_allLines 3 (some .int) 0 := ⟨wcd_X0_allLines, wim_X0_allLines, wse_X0_allLines, win_RX0, by decide +kernel⟩
end
