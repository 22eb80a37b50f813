section
-- ===== PART A: goes FIRST, ahead of the names: the tables' words, and 'selects' of the private methods out of them =====
/-- a private method of a class that the tables say can be made, by its rows of tables_1 -/
def lw_okq (q : MethodName × Nat) : Prop := (q.1.cls ≠ "java/lang/invoke/MethodHandle" ∧ q.1.cls ≠ "java/lang/invoke/VarHandle") ∧ Cond.instantiable q.1.cls q.2 ∈ tables_1 ∧ Cond.privateMethod q.1 ∈ tables_1 ∧ Cond.instanceMethod q.1 ∈ tables_1
theorem lw_p0 : lw_okq (⟨"RoofOrdinances$OrderReader", "readOrder", "()Z"⟩, 6) := ⟨⟨by decide +kernel, by decide +kernel⟩, List.mem_of_getElem? (i := 158) (by decide +kernel), List.mem_of_getElem? (i := 414) (by decide +kernel), List.mem_of_getElem? (i := 415) (by decide +kernel)⟩
theorem lw_p1 : lw_okq (⟨"RoofOrdinances$OrderReader", "readOwner", "()Z"⟩, 6) := ⟨⟨by decide +kernel, by decide +kernel⟩, List.mem_of_getElem? (i := 158) (by decide +kernel), List.mem_of_getElem? (i := 422) (by decide +kernel), List.mem_of_getElem? (i := 423) (by decide +kernel)⟩
theorem lw_p2 : lw_okq (⟨"RoofOrdinances$OrderReader", "digitAt", "(I)I"⟩, 6) := ⟨⟨by decide +kernel, by decide +kernel⟩, List.mem_of_getElem? (i := 158) (by decide +kernel), List.mem_of_getElem? (i := 426) (by decide +kernel), List.mem_of_getElem? (i := 427) (by decide +kernel)⟩
theorem lw_p3 : lw_okq (⟨"RoofOrdinances$OrderReader", "readSign", "(C)Z"⟩, 6) := ⟨⟨by decide +kernel, by decide +kernel⟩, List.mem_of_getElem? (i := 158) (by decide +kernel), List.mem_of_getElem? (i := 431) (by decide +kernel), List.mem_of_getElem? (i := 432) (by decide +kernel)⟩
theorem lw_p4 : lw_okq (⟨"RoofOrdinances$OrderReader", "readNumber", "(Z)Z"⟩, 6) := ⟨⟨by decide +kernel, by decide +kernel⟩, List.mem_of_getElem? (i := 158) (by decide +kernel), List.mem_of_getElem? (i := 435) (by decide +kernel), List.mem_of_getElem? (i := 436) (by decide +kernel)⟩
theorem lw_p5 : lw_okq (⟨"RoofOrdinances", "carryOutOrder", "()I"⟩, 12) := ⟨⟨by decide +kernel, by decide +kernel⟩, List.mem_of_getElem? (i := 14) (by decide +kernel), List.mem_of_getElem? (i := 453) (by decide +kernel), List.mem_of_getElem? (i := 454) (by decide +kernel)⟩
theorem lw_p6 : lw_okq (⟨"RoofOrdinances", "keepStop", "(II)V"⟩, 12) := ⟨⟨by decide +kernel, by decide +kernel⟩, List.mem_of_getElem? (i := 14) (by decide +kernel), List.mem_of_getElem? (i := 460) (by decide +kernel), List.mem_of_getElem? (i := 461) (by decide +kernel)⟩
theorem lw_p7 : lw_okq (⟨"RoofOrdinances$Ways", "joinOver", "(LRoofOrdinances$City;I)V"⟩, 2) := ⟨⟨by decide +kernel, by decide +kernel⟩, List.mem_of_getElem? (i := 129) (by decide +kernel), List.mem_of_getElem? (i := 538) (by decide +kernel), List.mem_of_getElem? (i := 539) (by decide +kernel)⟩
theorem lw_p8 : lw_okq (⟨"RoofOrdinances$Ways", "rename", "(II)V"⟩, 2) := ⟨⟨by decide +kernel, by decide +kernel⟩, List.mem_of_getElem? (i := 129) (by decide +kernel), List.mem_of_getElem? (i := 545) (by decide +kernel), List.mem_of_getElem? (i := 546) (by decide +kernel)⟩
theorem lw_p9 : lw_okq (⟨"RoofOrdinances$Ways", "spread", "(LRoofOrdinances$City;)Z"⟩, 2) := ⟨⟨by decide +kernel, by decide +kernel⟩, List.mem_of_getElem? (i := 129) (by decide +kernel), List.mem_of_getElem? (i := 554) (by decide +kernel), List.mem_of_getElem? (i := 555) (by decide +kernel)⟩
theorem lw_p10 : lw_okq (⟨"RoofOrdinances$Ways", "raise", "(II)Z"⟩, 2) := ⟨⟨by decide +kernel, by decide +kernel⟩, List.mem_of_getElem? (i := 129) (by decide +kernel), List.mem_of_getElem? (i := 559) (by decide +kernel), List.mem_of_getElem? (i := 560) (by decide +kernel)⟩
theorem lw_p11 : lw_okq (⟨"RoofOrdinances$Ways", "oneWalkFurther", "(LRoofOrdinances$City;II)I"⟩, 2) := ⟨⟨by decide +kernel, by decide +kernel⟩, List.mem_of_getElem? (i := 129) (by decide +kernel), List.mem_of_getElem? (i := 572) (by decide +kernel), List.mem_of_getElem? (i := 573) (by decide +kernel)⟩
theorem lw_p12 : lw_okq (⟨"RoofOrdinancesModel", "records", "()V"⟩, 15) := ⟨⟨by decide +kernel, by decide +kernel⟩, List.mem_of_getElem? (i := 644) (by decide +kernel), List.mem_of_getElem? (i := 707) (by decide +kernel), List.mem_of_getElem? (i := 708) (by decide +kernel)⟩
theorem lw_p13 : lw_okq (⟨"RoofOrdinancesModel", "of", "(II)I"⟩, 15) := ⟨⟨by decide +kernel, by decide +kernel⟩, List.mem_of_getElem? (i := 644) (by decide +kernel), List.mem_of_getElem? (i := 714) (by decide +kernel), List.mem_of_getElem? (i := 715) (by decide +kernel)⟩
theorem lw_p14 : lw_okq (⟨"RoofOrdinancesModel", "lays", "(III)V"⟩, 15) := ⟨⟨by decide +kernel, by decide +kernel⟩, List.mem_of_getElem? (i := 644) (by decide +kernel), List.mem_of_getElem? (i := 718) (by decide +kernel), List.mem_of_getElem? (i := 719) (by decide +kernel)⟩
theorem lw_p15 : lw_okq (⟨"RoofOrdinancesModel", "hasLine", "(I)Z"⟩, 15) := ⟨⟨by decide +kernel, by decide +kernel⟩, List.mem_of_getElem? (i := 644) (by decide +kernel), List.mem_of_getElem? (i := 722) (by decide +kernel), List.mem_of_getElem? (i := 723) (by decide +kernel)⟩
def lw_privs_1 : List (MethodName × Nat) := [(⟨"RoofOrdinances$OrderReader", "readOrder", "()Z"⟩, 6), (⟨"RoofOrdinances$OrderReader", "readOwner", "()Z"⟩, 6), (⟨"RoofOrdinances$OrderReader", "digitAt", "(I)I"⟩, 6), (⟨"RoofOrdinances$OrderReader", "readSign", "(C)Z"⟩, 6), (⟨"RoofOrdinances$OrderReader", "readNumber", "(Z)Z"⟩, 6), (⟨"RoofOrdinances", "carryOutOrder", "()I"⟩, 12), (⟨"RoofOrdinances", "keepStop", "(II)V"⟩, 12), (⟨"RoofOrdinances$Ways", "joinOver", "(LRoofOrdinances$City;I)V"⟩, 2), (⟨"RoofOrdinances$Ways", "rename", "(II)V"⟩, 2), (⟨"RoofOrdinances$Ways", "spread", "(LRoofOrdinances$City;)Z"⟩, 2), (⟨"RoofOrdinances$Ways", "raise", "(II)Z"⟩, 2), (⟨"RoofOrdinances$Ways", "oneWalkFurther", "(LRoofOrdinances$City;II)I"⟩, 2), (⟨"RoofOrdinancesModel", "records", "()V"⟩, 15), (⟨"RoofOrdinancesModel", "of", "(II)I"⟩, 15), (⟨"RoofOrdinancesModel", "lays", "(III)V"⟩, 15), (⟨"RoofOrdinancesModel", "hasLine", "(I)Z"⟩, 15)]
theorem lw_r1 : ∀ q ∈ lw_privs_1, lw_okq q := List.forall_mem_cons.mpr ⟨lw_p0, List.forall_mem_cons.mpr ⟨lw_p1, List.forall_mem_cons.mpr ⟨lw_p2, List.forall_mem_cons.mpr ⟨lw_p3, List.forall_mem_cons.mpr ⟨lw_p4, List.forall_mem_cons.mpr ⟨lw_p5, List.forall_mem_cons.mpr ⟨lw_p6, List.forall_mem_cons.mpr ⟨lw_p7, List.forall_mem_cons.mpr ⟨lw_p8, List.forall_mem_cons.mpr ⟨lw_p9, List.forall_mem_cons.mpr ⟨lw_p10, List.forall_mem_cons.mpr ⟨lw_p11, List.forall_mem_cons.mpr ⟨lw_p12, List.forall_mem_cons.mpr ⟨lw_p13, List.forall_mem_cons.mpr ⟨lw_p14, List.forall_mem_cons.mpr ⟨lw_p15, fun _ h => absurd h List.not_mem_nil⟩⟩⟩⟩⟩⟩⟩⟩⟩⟩⟩⟩⟩⟩⟩⟩
theorem lw_p16 : lw_okq (⟨"RoofOrdinancesModel", "removes", "(I)V"⟩, 15) := ⟨⟨by decide +kernel, by decide +kernel⟩, List.mem_of_getElem? (i := 644) (by decide +kernel), List.mem_of_getElem? (i := 726) (by decide +kernel), List.mem_of_getElem? (i := 727) (by decide +kernel)⟩
theorem lw_p17 : lw_okq (⟨"RoofOrdinancesModel", "goChimney", "(I)I"⟩, 15) := ⟨⟨by decide +kernel, by decide +kernel⟩, List.mem_of_getElem? (i := 644) (by decide +kernel), List.mem_of_getElem? (i := 741) (by decide +kernel), List.mem_of_getElem? (i := 742) (by decide +kernel)⟩
theorem lw_p18 : lw_okq (⟨"RoofOrdinancesModel", "smoke", "()I"⟩, 15) := ⟨⟨by decide +kernel, by decide +kernel⟩, List.mem_of_getElem? (i := 644) (by decide +kernel), List.mem_of_getElem? (i := 745) (by decide +kernel), List.mem_of_getElem? (i := 746) (by decide +kernel)⟩
theorem lw_p19 : lw_okq (⟨"RoofOrdinancesModel", "smokeBy", "(I)I"⟩, 15) := ⟨⟨by decide +kernel, by decide +kernel⟩, List.mem_of_getElem? (i := 644) (by decide +kernel), List.mem_of_getElem? (i := 749) (by decide +kernel), List.mem_of_getElem? (i := 750) (by decide +kernel)⟩
theorem lw_p20 : lw_okq (⟨"RoofOrdinancesModel", "smokeOf", "(II)I"⟩, 15) := ⟨⟨by decide +kernel, by decide +kernel⟩, List.mem_of_getElem? (i := 644) (by decide +kernel), List.mem_of_getElem? (i := 756) (by decide +kernel), List.mem_of_getElem? (i := 757) (by decide +kernel)⟩
theorem lw_p21 : lw_okq (⟨"RoofOrdinancesModel", "ofOwner", "(II)I"⟩, 15) := ⟨⟨by decide +kernel, by decide +kernel⟩, List.mem_of_getElem? (i := 644) (by decide +kernel), List.mem_of_getElem? (i := 777) (by decide +kernel), List.mem_of_getElem? (i := 778) (by decide +kernel)⟩
theorem lw_p22 : lw_okq (⟨"RoofOrdinancesModel", "goHang", "(II)I"⟩, 15) := ⟨⟨by decide +kernel, by decide +kernel⟩, List.mem_of_getElem? (i := 644) (by decide +kernel), List.mem_of_getElem? (i := 789) (by decide +kernel), List.mem_of_getElem? (i := 790) (by decide +kernel)⟩
theorem lw_p23 : lw_okq (⟨"RoofOrdinancesModel", "reasonToHang", "(II)I"⟩, 15) := ⟨⟨by decide +kernel, by decide +kernel⟩, List.mem_of_getElem? (i := 644) (by decide +kernel), List.mem_of_getElem? (i := 793) (by decide +kernel), List.mem_of_getElem? (i := 794) (by decide +kernel)⟩
theorem lw_p24 : lw_okq (⟨"RoofOrdinancesModel", "bothOf", "(I)I"⟩, 15) := ⟨⟨by decide +kernel, by decide +kernel⟩, List.mem_of_getElem? (i := 644) (by decide +kernel), List.mem_of_getElem? (i := 797) (by decide +kernel), List.mem_of_getElem? (i := 798) (by decide +kernel)⟩
theorem lw_p25 : lw_okq (⟨"RoofOrdinancesModel", "nearCoops", "()I"⟩, 15) := ⟨⟨by decide +kernel, by decide +kernel⟩, List.mem_of_getElem? (i := 644) (by decide +kernel), List.mem_of_getElem? (i := 807) (by decide +kernel), List.mem_of_getElem? (i := 808) (by decide +kernel)⟩
theorem lw_p26 : lw_okq (⟨"RoofOrdinancesModel", "refuses", "(I)I"⟩, 15) := ⟨⟨by decide +kernel, by decide +kernel⟩, List.mem_of_getElem? (i := 644) (by decide +kernel), List.mem_of_getElem? (i := 811) (by decide +kernel), List.mem_of_getElem? (i := 812) (by decide +kernel)⟩
theorem lw_p27 : lw_okq (⟨"RoofOrdinancesModel", "linesNow", "()I"⟩, 15) := ⟨⟨by decide +kernel, by decide +kernel⟩, List.mem_of_getElem? (i := 644) (by decide +kernel), List.mem_of_getElem? (i := 815) (by decide +kernel), List.mem_of_getElem? (i := 816) (by decide +kernel)⟩
theorem lw_p28 : lw_okq (⟨"RoofOrdinancesModel", "goTake", "(II)I"⟩, 15) := ⟨⟨by decide +kernel, by decide +kernel⟩, List.mem_of_getElem? (i := 644) (by decide +kernel), List.mem_of_getElem? (i := 823) (by decide +kernel), List.mem_of_getElem? (i := 824) (by decide +kernel)⟩
theorem lw_p29 : lw_okq (⟨"RoofOrdinancesModel", "goWalk", "(II)I"⟩, 15) := ⟨⟨by decide +kernel, by decide +kernel⟩, List.mem_of_getElem? (i := 644) (by decide +kernel), List.mem_of_getElem? (i := 834) (by decide +kernel), List.mem_of_getElem? (i := 835) (by decide +kernel)⟩
theorem lw_p30 : lw_okq (⟨"RoofOrdinancesModel", "reasonToWalk", "(III)I"⟩, 15) := ⟨⟨by decide +kernel, by decide +kernel⟩, List.mem_of_getElem? (i := 644) (by decide +kernel), List.mem_of_getElem? (i := 838) (by decide +kernel), List.mem_of_getElem? (i := 839) (by decide +kernel)⟩
theorem lw_p31 : lw_okq (⟨"RoofOrdinancesModel", "goDay", "()I"⟩, 15) := ⟨⟨by decide +kernel, by decide +kernel⟩, List.mem_of_getElem? (i := 644) (by decide +kernel), List.mem_of_getElem? (i := 849) (by decide +kernel), List.mem_of_getElem? (i := 850) (by decide +kernel)⟩
def lw_privs_2 : List (MethodName × Nat) := [(⟨"RoofOrdinancesModel", "removes", "(I)V"⟩, 15), (⟨"RoofOrdinancesModel", "goChimney", "(I)I"⟩, 15), (⟨"RoofOrdinancesModel", "smoke", "()I"⟩, 15), (⟨"RoofOrdinancesModel", "smokeBy", "(I)I"⟩, 15), (⟨"RoofOrdinancesModel", "smokeOf", "(II)I"⟩, 15), (⟨"RoofOrdinancesModel", "ofOwner", "(II)I"⟩, 15), (⟨"RoofOrdinancesModel", "goHang", "(II)I"⟩, 15), (⟨"RoofOrdinancesModel", "reasonToHang", "(II)I"⟩, 15), (⟨"RoofOrdinancesModel", "bothOf", "(I)I"⟩, 15), (⟨"RoofOrdinancesModel", "nearCoops", "()I"⟩, 15), (⟨"RoofOrdinancesModel", "refuses", "(I)I"⟩, 15), (⟨"RoofOrdinancesModel", "linesNow", "()I"⟩, 15), (⟨"RoofOrdinancesModel", "goTake", "(II)I"⟩, 15), (⟨"RoofOrdinancesModel", "goWalk", "(II)I"⟩, 15), (⟨"RoofOrdinancesModel", "reasonToWalk", "(III)I"⟩, 15), (⟨"RoofOrdinancesModel", "goDay", "()I"⟩, 15)]
theorem lw_r2 : ∀ q ∈ lw_privs_2, lw_okq q := List.forall_mem_cons.mpr ⟨lw_p16, List.forall_mem_cons.mpr ⟨lw_p17, List.forall_mem_cons.mpr ⟨lw_p18, List.forall_mem_cons.mpr ⟨lw_p19, List.forall_mem_cons.mpr ⟨lw_p20, List.forall_mem_cons.mpr ⟨lw_p21, List.forall_mem_cons.mpr ⟨lw_p22, List.forall_mem_cons.mpr ⟨lw_p23, List.forall_mem_cons.mpr ⟨lw_p24, List.forall_mem_cons.mpr ⟨lw_p25, List.forall_mem_cons.mpr ⟨lw_p26, List.forall_mem_cons.mpr ⟨lw_p27, List.forall_mem_cons.mpr ⟨lw_p28, List.forall_mem_cons.mpr ⟨lw_p29, List.forall_mem_cons.mpr ⟨lw_p30, List.forall_mem_cons.mpr ⟨lw_p31, fun _ h => absurd h List.not_mem_nil⟩⟩⟩⟩⟩⟩⟩⟩⟩⟩⟩⟩⟩⟩⟩⟩
theorem lw_p32 : lw_okq (⟨"RoofOrdinancesModel", "cleanNow", "()I"⟩, 15) := ⟨⟨by decide +kernel, by decide +kernel⟩, List.mem_of_getElem? (i := 644) (by decide +kernel), List.mem_of_getElem? (i := 853) (by decide +kernel), List.mem_of_getElem? (i := 854) (by decide +kernel)⟩
theorem lw_p33 : lw_okq (⟨"RoofOrdinancesModel", "isClean", "(I)Z"⟩, 15) := ⟨⟨by decide +kernel, by decide +kernel⟩, List.mem_of_getElem? (i := 644) (by decide +kernel), List.mem_of_getElem? (i := 857) (by decide +kernel), List.mem_of_getElem? (i := 858) (by decide +kernel)⟩
theorem lw_p34 : lw_okq (⟨"RoofOrdinancesModel", "isText", "()Z"⟩, 15) := ⟨⟨by decide +kernel, by decide +kernel⟩, List.mem_of_getElem? (i := 644) (by decide +kernel), List.mem_of_getElem? (i := 873) (by decide +kernel), List.mem_of_getElem? (i := 874) (by decide +kernel)⟩
theorem lw_p35 : lw_okq (⟨"RoofOrdinancesModel", "takesOrder", "()V"⟩, 15) := ⟨⟨by decide +kernel, by decide +kernel⟩, List.mem_of_getElem? (i := 644) (by decide +kernel), List.mem_of_getElem? (i := 877) (by decide +kernel), List.mem_of_getElem? (i := 878) (by decide +kernel)⟩
theorem lw_p36 : lw_okq (⟨"RoofOrdinancesModel", "here", "()I"⟩, 15) := ⟨⟨by decide +kernel, by decide +kernel⟩, List.mem_of_getElem? (i := 644) (by decide +kernel), List.mem_of_getElem? (i := 881) (by decide +kernel), List.mem_of_getElem? (i := 882) (by decide +kernel)⟩
theorem lw_p37 : lw_okq (⟨"RoofOrdinancesModel", "takes", "(Z)V"⟩, 15) := ⟨⟨by decide +kernel, by decide +kernel⟩, List.mem_of_getElem? (i := 644) (by decide +kernel), List.mem_of_getElem? (i := 885) (by decide +kernel), List.mem_of_getElem? (i := 886) (by decide +kernel)⟩
theorem lw_p38 : lw_okq (⟨"RoofOrdinancesModel", "takesNumber", "(Z)I"⟩, 15) := ⟨⟨by decide +kernel, by decide +kernel⟩, List.mem_of_getElem? (i := 644) (by decide +kernel), List.mem_of_getElem? (i := 889) (by decide +kernel), List.mem_of_getElem? (i := 890) (by decide +kernel)⟩
theorem lw_p39 : lw_okq (⟨"RoofOrdinancesModel", "doesOrder", "()I"⟩, 15) := ⟨⟨by decide +kernel, by decide +kernel⟩, List.mem_of_getElem? (i := 644) (by decide +kernel), List.mem_of_getElem? (i := 900) (by decide +kernel), List.mem_of_getElem? (i := 901) (by decide +kernel)⟩
theorem lw_p40 : lw_okq (⟨"RoofOrdinancesModel", "chimneysOver", "(I)I"⟩, 15) := ⟨⟨by decide +kernel, by decide +kernel⟩, List.mem_of_getElem? (i := 644) (by decide +kernel), List.mem_of_getElem? (i := 912) (by decide +kernel), List.mem_of_getElem? (i := 913) (by decide +kernel)⟩
theorem lw_p41 : lw_okq (⟨"RoofOrdinancesModel", "ownersAt", "(I)I"⟩, 15) := ⟨⟨by decide +kernel, by decide +kernel⟩, List.mem_of_getElem? (i := 644) (by decide +kernel), List.mem_of_getElem? (i := 916) (by decide +kernel), List.mem_of_getElem? (i := 917) (by decide +kernel)⟩
theorem lw_p42 : lw_okq (⟨"RoofOrdinancesModel", "strongAt", "(I)I"⟩, 15) := ⟨⟨by decide +kernel, by decide +kernel⟩, List.mem_of_getElem? (i := 644) (by decide +kernel), List.mem_of_getElem? (i := 920) (by decide +kernel), List.mem_of_getElem? (i := 921) (by decide +kernel)⟩
theorem lw_p43 : lw_okq (⟨"RoofOrdinancesModel", "linesAt", "(I)I"⟩, 15) := ⟨⟨by decide +kernel, by decide +kernel⟩, List.mem_of_getElem? (i := 644) (by decide +kernel), List.mem_of_getElem? (i := 924) (by decide +kernel), List.mem_of_getElem? (i := 925) (by decide +kernel)⟩
theorem lw_p44 : lw_okq (⟨"RoofOrdinancesModel", "comeTo", "(II)I"⟩, 15) := ⟨⟨by decide +kernel, by decide +kernel⟩, List.mem_of_getElem? (i := 644) (by decide +kernel), List.mem_of_getElem? (i := 928) (by decide +kernel), List.mem_of_getElem? (i := 929) (by decide +kernel)⟩
theorem lw_p45 : lw_okq (⟨"RoofOrdinancesModel", "linesOf", "(IZ)I"⟩, 15) := ⟨⟨by decide +kernel, by decide +kernel⟩, List.mem_of_getElem? (i := 644) (by decide +kernel), List.mem_of_getElem? (i := 940) (by decide +kernel), List.mem_of_getElem? (i := 941) (by decide +kernel)⟩
theorem lw_p46 : lw_okq (⟨"RoofOrdinancesModel", "walksNow", "(I)I"⟩, 15) := ⟨⟨by decide +kernel, by decide +kernel⟩, List.mem_of_getElem? (i := 644) (by decide +kernel), List.mem_of_getElem? (i := 944) (by decide +kernel), List.mem_of_getElem? (i := 945) (by decide +kernel)⟩
theorem lw_p47 : lw_okq (⟨"RoofOrdinancesModel", "hangsNow", "(I)I"⟩, 15) := ⟨⟨by decide +kernel, by decide +kernel⟩, List.mem_of_getElem? (i := 644) (by decide +kernel), List.mem_of_getElem? (i := 948) (by decide +kernel), List.mem_of_getElem? (i := 949) (by decide +kernel)⟩
def lw_privs_3 : List (MethodName × Nat) := [(⟨"RoofOrdinancesModel", "cleanNow", "()I"⟩, 15), (⟨"RoofOrdinancesModel", "isClean", "(I)Z"⟩, 15), (⟨"RoofOrdinancesModel", "isText", "()Z"⟩, 15), (⟨"RoofOrdinancesModel", "takesOrder", "()V"⟩, 15), (⟨"RoofOrdinancesModel", "here", "()I"⟩, 15), (⟨"RoofOrdinancesModel", "takes", "(Z)V"⟩, 15), (⟨"RoofOrdinancesModel", "takesNumber", "(Z)I"⟩, 15), (⟨"RoofOrdinancesModel", "doesOrder", "()I"⟩, 15), (⟨"RoofOrdinancesModel", "chimneysOver", "(I)I"⟩, 15), (⟨"RoofOrdinancesModel", "ownersAt", "(I)I"⟩, 15), (⟨"RoofOrdinancesModel", "strongAt", "(I)I"⟩, 15), (⟨"RoofOrdinancesModel", "linesAt", "(I)I"⟩, 15), (⟨"RoofOrdinancesModel", "comeTo", "(II)I"⟩, 15), (⟨"RoofOrdinancesModel", "linesOf", "(IZ)I"⟩, 15), (⟨"RoofOrdinancesModel", "walksNow", "(I)I"⟩, 15), (⟨"RoofOrdinancesModel", "hangsNow", "(I)I"⟩, 15)]
theorem lw_r3 : ∀ q ∈ lw_privs_3, lw_okq q := List.forall_mem_cons.mpr ⟨lw_p32, List.forall_mem_cons.mpr ⟨lw_p33, List.forall_mem_cons.mpr ⟨lw_p34, List.forall_mem_cons.mpr ⟨lw_p35, List.forall_mem_cons.mpr ⟨lw_p36, List.forall_mem_cons.mpr ⟨lw_p37, List.forall_mem_cons.mpr ⟨lw_p38, List.forall_mem_cons.mpr ⟨lw_p39, List.forall_mem_cons.mpr ⟨lw_p40, List.forall_mem_cons.mpr ⟨lw_p41, List.forall_mem_cons.mpr ⟨lw_p42, List.forall_mem_cons.mpr ⟨lw_p43, List.forall_mem_cons.mpr ⟨lw_p44, List.forall_mem_cons.mpr ⟨lw_p45, List.forall_mem_cons.mpr ⟨lw_p46, List.forall_mem_cons.mpr ⟨lw_p47, fun _ h => absurd h List.not_mem_nil⟩⟩⟩⟩⟩⟩⟩⟩⟩⟩⟩⟩⟩⟩⟩⟩
theorem lw_p48 : lw_okq (⟨"RoofOrdinancesModel", "strengthOf", "(II)I"⟩, 15) := ⟨⟨by decide +kernel, by decide +kernel⟩, List.mem_of_getElem? (i := 644) (by decide +kernel), List.mem_of_getElem? (i := 960) (by decide +kernel), List.mem_of_getElem? (i := 961) (by decide +kernel)⟩
theorem lw_p49 : lw_okq (⟨"RoofOrdinancesModel", "stepsOf", "(II)I"⟩, 15) := ⟨⟨by decide +kernel, by decide +kernel⟩, List.mem_of_getElem? (i := 644) (by decide +kernel), List.mem_of_getElem? (i := 968) (by decide +kernel), List.mem_of_getElem? (i := 969) (by decide +kernel)⟩
theorem lw_p50 : lw_okq (⟨"RoofOrdinancesModel", "furtherFrom", "(II)I"⟩, 15) := ⟨⟨by decide +kernel, by decide +kernel⟩, List.mem_of_getElem? (i := 644) (by decide +kernel), List.mem_of_getElem? (i := 972) (by decide +kernel), List.mem_of_getElem? (i := 973) (by decide +kernel)⟩
theorem lw_p51 : lw_okq (⟨"RoofOrdinancesModel", "sumOf", "(I)I"⟩, 15) := ⟨⟨by decide +kernel, by decide +kernel⟩, List.mem_of_getElem? (i := 644) (by decide +kernel), List.mem_of_getElem? (i := 980) (by decide +kernel), List.mem_of_getElem? (i := 981) (by decide +kernel)⟩
theorem lw_p52 : lw_okq (⟨"RoofOrdinancesModel", "smokedBy", "(I)I"⟩, 15) := ⟨⟨by decide +kernel, by decide +kernel⟩, List.mem_of_getElem? (i := 644) (by decide +kernel), List.mem_of_getElem? (i := 984) (by decide +kernel), List.mem_of_getElem? (i := 985) (by decide +kernel)⟩
theorem lw_p53 : lw_okq (⟨"RoofOrdinancesModel", "windsOver", "(I)I"⟩, 15) := ⟨⟨by decide +kernel, by decide +kernel⟩, List.mem_of_getElem? (i := 644) (by decide +kernel), List.mem_of_getElem? (i := 1008) (by decide +kernel), List.mem_of_getElem? (i := 1009) (by decide +kernel)⟩
def lw_privs_4 : List (MethodName × Nat) := [(⟨"RoofOrdinancesModel", "strengthOf", "(II)I"⟩, 15), (⟨"RoofOrdinancesModel", "stepsOf", "(II)I"⟩, 15), (⟨"RoofOrdinancesModel", "furtherFrom", "(II)I"⟩, 15), (⟨"RoofOrdinancesModel", "sumOf", "(I)I"⟩, 15), (⟨"RoofOrdinancesModel", "smokedBy", "(I)I"⟩, 15), (⟨"RoofOrdinancesModel", "windsOver", "(I)I"⟩, 15)]
theorem lw_r4 : ∀ q ∈ lw_privs_4, lw_okq q := List.forall_mem_cons.mpr ⟨lw_p48, List.forall_mem_cons.mpr ⟨lw_p49, List.forall_mem_cons.mpr ⟨lw_p50, List.forall_mem_cons.mpr ⟨lw_p51, List.forall_mem_cons.mpr ⟨lw_p52, List.forall_mem_cons.mpr ⟨lw_p53, fun _ h => absurd h List.not_mem_nil⟩⟩⟩⟩⟩⟩
def lw_privs : List (MethodName × Nat) := lw_privs_1 ++ (lw_privs_2 ++ (lw_privs_3 ++ (lw_privs_4)))
def lw_tbl : List Cond := k2_sels lw_privs ++ tables_1
theorem lw_privs_ok : ∀ q ∈ lw_privs, lw_okq q := by
  show ∀ q ∈ lw_privs_1 ++ (lw_privs_2 ++ (lw_privs_3 ++ (lw_privs_4))), lw_okq q
  exact List.forall_mem_append.mpr ⟨lw_r1, List.forall_mem_append.mpr ⟨lw_r2, List.forall_mem_append.mpr ⟨lw_r3, lw_r4⟩⟩⟩
/-- the streams that the claim lets the run draw from -/
abbrev lw_cs : List Choice := [Jvm.Choice.named "NaN.bits"]
theorem lw_bits : nanBits ∈ lw_cs := by first | decide | exact List.mem_cons_self | simp [lw_cs, nanBits]
end
section
def RX0 : String := "RoofOrdinances$City"
def TX0 : u_T := fun k => match k with
  | 0 => ("RoofOrdinances$City", "borne", "[I", true)
  | 1 => ("RoofOrdinances$City", "hangers", "[I", true)
  | 2 => ("RoofOrdinances$City", "soot", "[I", true)
  | 3 => ("RoofOrdinances$City", "spots", "[I", true)
  | 4 => ("RoofOrdinances$City", "weights", "[I", true)
  | 5 => ("RoofOrdinances$City", "keys", "[I", true)
  | 6 => ("RoofOrdinances$City", "places", "[I", true)
  | 7 => ("RoofOrdinances$City", "walks", "[I", true)
  | 8 => ("RoofOrdinances$City", "truces", "I", false)
  | 9 => ("RoofOrdinances$City", "chimneys", "I", false)
  | 10 => ("RoofOrdinances$City", "coops", "I", false)
  | 11 => ("RoofOrdinances$City", "windTo", "I", false)
  | 12 => ("RoofOrdinances$City", "smokeReach", "I", false)
  | 13 => ("RoofOrdinances$City", "dayNumber", "I", false)
  | 14 => ("RoofOrdinances$City", "lot", "I", false)
  | 15 => ("RoofOrdinances$City", "hung", "I", false)
  | 16 => ("RoofOrdinances$City", "taken", "I", false)
  | 17 => ("RoofOrdinances$City", "fallen", "I", false)
  | _ => ("RoofOrdinances$City", "refused", "I", false)
def tyX0 : Nat → FieldType := fun k => match k with
  | 0 => .array .int
  | 1 => .array .int
  | 2 => .array .int
  | 3 => .array .int
  | 4 => .array .int
  | 5 => .array .int
  | 6 => .array .int
  | 7 => .array .int
  | 8 => .int
  | 9 => .int
  | 10 => .int
  | 11 => .int
  | 12 => .int
  | 13 => .int
  | 14 => .int
  | 15 => .int
  | 16 => .int
  | 17 => .int
  | _ => .int
theorem nmX0 : ∀ a, a < 19 → ∀ b, b < 19 → a ≠ b → (TX0 a).2.1 ≠ (TX0 b).2.1 := by decide +kernel
theorem tyX0_ok : ∀ k, k < 19 → parseFieldDescriptor (TX0 k).2.2.1 = some (tyX0 k) := by decide +kernel
abbrev cX0_init : ByteArray := prog_2_method_1_code
def yX0_init : MethodName := ⟨RX0, "<init>", "()V"⟩
abbrev cX0_copyFrom : ByteArray := prog_2_method_2_code
def yX0_copyFrom : MethodName := ⟨RX0, "copyFrom", "(LRoofOrdinances$City;)V"⟩
abbrev cX0_letBear : ByteArray := prog_2_method_3_code
def yX0_letBear : MethodName := ⟨RX0, "letBear", "(II)V"⟩
abbrev cX0_toggleChimney : ByteArray := prog_2_method_4_code
def yX0_toggleChimney : MethodName := ⟨RX0, "toggleChimney", "(I)V"⟩
abbrev cX0_setTruce : ByteArray := prog_2_method_5_code
def yX0_setTruce : MethodName := ⟨RX0, "setTruce", "(IZ)V"⟩
abbrev cX0_hasLine : ByteArray := prog_2_method_6_code
def yX0_hasLine : MethodName := ⟨RX0, "hasLine", "(I)Z"⟩
abbrev cX0_isThere : ByteArray := prog_2_method_7_code
def yX0_isThere : MethodName := ⟨RX0, "isThere", "(I)Z"⟩
abbrev cX0_smokeBlown : ByteArray := prog_2_method_8_code
def yX0_smokeBlown : MethodName := ⟨RX0, "smokeBlown", "(I)I"⟩
abbrev cX0_chimneysSmoking : ByteArray := prog_2_method_9_code
def yX0_chimneysSmoking : MethodName := ⟨RX0, "chimneysSmoking", "(I)I"⟩
abbrev cX0_windsSmoking : ByteArray := prog_2_method_10_code
def yX0_windsSmoking : MethodName := ⟨RX0, "windsSmoking", "(I)I"⟩
abbrev cX0_isNearCoop : ByteArray := prog_2_method_11_code
def yX0_isNearCoop : MethodName := ⟨RX0, "isNearCoop", "(I)Z"⟩
abbrev cX0_reasonNotToHang : ByteArray := prog_2_method_12_code
def yX0_reasonNotToHang : MethodName := ⟨RX0, "reasonNotToHang", "(II)I"⟩
abbrev cX0_hangLine : ByteArray := prog_2_method_13_code
def yX0_hangLine : MethodName := ⟨RX0, "hangLine", "(II)I"⟩
abbrev cX0_takeLine : ByteArray := prog_2_method_14_code
def yX0_takeLine : MethodName := ⟨RX0, "takeLine", "(II)I"⟩
abbrev cX0_standsAt : ByteArray := prog_2_method_15_code
def yX0_standsAt : MethodName := ⟨RX0, "standsAt", "(II)Z"⟩
abbrev cX0_reasonNotToWalk : ByteArray := prog_2_method_16_code
def yX0_reasonNotToWalk : MethodName := ⟨RX0, "reasonNotToWalk", "(III)I"⟩
abbrev cX0_walkOver : ByteArray := prog_2_method_17_code
def yX0_walkOver : MethodName := ⟨RX0, "walkOver", "(II)I"⟩
abbrev cX0_passDay : ByteArray := prog_2_method_18_code
def yX0_passDay : MethodName := ⟨RX0, "passDay", "()V"⟩
abbrev cX0_soilLine : ByteArray := prog_2_method_19_code
def yX0_soilLine : MethodName := ⟨RX0, "soilLine", "(II)V"⟩
abbrev cX0_allLines : ByteArray := prog_2_method_20_code
def yX0_allLines : MethodName := ⟨RX0, "allLines", "()I"⟩
abbrev cX0_cleanLines : ByteArray := prog_2_method_21_code
def yX0_cleanLines : MethodName := ⟨RX0, "cleanLines", "()I"⟩
abbrev cX0_linesOf : ByteArray := prog_2_method_22_code
def yX0_linesOf : MethodName := ⟨RX0, "linesOf", "(I)I"⟩
abbrev cX0_linesSmokedBy : ByteArray := prog_2_method_23_code
def yX0_linesSmokedBy : MethodName := ⟨RX0, "linesSmokedBy", "(I)I"⟩
abbrev cX0_sumOverLines : ByteArray := prog_2_method_24_code
def yX0_sumOverLines : MethodName := ⟨RX0, "sumOverLines", "([I)I"⟩
abbrev cX0_standingGangways : ByteArray := prog_2_method_25_code
def yX0_standingGangways : MethodName := ⟨RX0, "standingGangways", "()I"⟩
abbrev cX0_ownersOn : ByteArray := prog_2_method_26_code
def yX0_ownersOn : MethodName := ⟨RX0, "ownersOn", "(I)I"⟩
abbrev cX0_walksOpenTo : ByteArray := prog_2_method_27_code
def yX0_walksOpenTo : MethodName := ⟨RX0, "walksOpenTo", "(I)I"⟩
abbrev cX0_hangingsOpenTo : ByteArray := prog_2_method_28_code
def yX0_hangingsOpenTo : MethodName := ⟨RX0, "hangingsOpenTo", "(I)I"⟩
abbrev cX0_numberOfNow : ByteArray := prog_2_method_29_code
def yX0_numberOfNow : MethodName := ⟨RX0, "numberOfNow", "(I)I"⟩
abbrev cX0_numberSoFar : ByteArray := prog_2_method_30_code
def yX0_numberSoFar : MethodName := ⟨RX0, "numberSoFar", "(I)I"⟩
def RX1 : String := "RoofOrdinances$History"
def TX1 : u_T := fun k => match k with
  | 0 => ("RoofOrdinances$History", "states", "[LRoofOrdinances$City;", true)
  | _ => ("RoofOrdinances$History", "size", "I", false)
def tyX1 : Nat → FieldType := fun k => match k with
  | 0 => .array (.object "RoofOrdinances$City")
  | _ => .int
theorem nmX1 : ∀ a, a < 2 → ∀ b, b < 2 → a ≠ b → (TX1 a).2.1 ≠ (TX1 b).2.1 := by decide +kernel
theorem tyX1_ok : ∀ k, k < 2 → parseFieldDescriptor (TX1 k).2.2.1 = some (tyX1 k) := by decide +kernel
abbrev cX1_init : ByteArray := prog_3_method_1_code
def yX1_init : MethodName := ⟨RX1, "<init>", "()V"⟩
abbrev cX1_push : ByteArray := prog_3_method_2_code
def yX1_push : MethodName := ⟨RX1, "push", "(LRoofOrdinances$City;)V"⟩
abbrev cX1_popInto : ByteArray := prog_3_method_3_code
def yX1_popInto : MethodName := ⟨RX1, "popInto", "(LRoofOrdinances$City;)V"⟩
def RX2 : String := "RoofOrdinances$OrderReader"
def TX2 : u_T := fun k => match k with
  | 0 => ("RoofOrdinances$OrderReader", "text", "LRoofOrdinances$Pad;", true)
  | 1 => ("RoofOrdinances$OrderReader", "position", "I", false)
  | 2 => ("RoofOrdinances$OrderReader", "start", "I", false)
  | 3 => ("RoofOrdinances$OrderReader", "letter", "C", false)
  | 4 => ("RoofOrdinances$OrderReader", "orderOwner", "I", false)
  | _ => ("RoofOrdinances$OrderReader", "orderNumber", "I", false)
def tyX2 : Nat → FieldType := fun k => match k with
  | 0 => .object "RoofOrdinances$Pad"
  | 1 => .int
  | 2 => .int
  | 3 => .char
  | 4 => .int
  | _ => .int
theorem nmX2 : ∀ a, a < 6 → ∀ b, b < 6 → a ≠ b → (TX2 a).2.1 ≠ (TX2 b).2.1 := by decide +kernel
theorem tyX2_ok : ∀ k, k < 6 → parseFieldDescriptor (TX2 k).2.2.1 = some (tyX2 k) := by decide +kernel
abbrev cX2_init : ByteArray := prog_4_method_1_code
def yX2_init : MethodName := ⟨RX2, "<init>", "(LRoofOrdinances$Pad;)V"⟩
abbrev cX2_rewind : ByteArray := prog_4_method_2_code
def yX2_rewind : MethodName := ⟨RX2, "rewind", "()V"⟩
abbrev cX2_firstFault : ByteArray := prog_4_method_3_code
def yX2_firstFault : MethodName := ⟨RX2, "firstFault", "()I"⟩
abbrev cX2_readNext : ByteArray := prog_4_method_4_code
def yX2_readNext : MethodName := ⟨RX2, "readNext", "()Z"⟩
abbrev cX2_readOrder : ByteArray := prog_4_method_5_code
def yX2_readOrder : MethodName := ⟨RX2, "readOrder", "()Z"⟩
abbrev cX2_readSign : ByteArray := prog_4_method_6_code
def yX2_readSign : MethodName := ⟨RX2, "readSign", "(C)Z"⟩
abbrev cX2_readOwner : ByteArray := prog_4_method_7_code
def yX2_readOwner : MethodName := ⟨RX2, "readOwner", "()Z"⟩
abbrev cX2_readNumber : ByteArray := prog_4_method_8_code
def yX2_readNumber : MethodName := ⟨RX2, "readNumber", "(Z)Z"⟩
abbrev cX2_isAllowed : ByteArray := prog_4_method_9_code
def yX2_isAllowed : MethodName := ⟨RX2, "isAllowed", "(IZ)Z"⟩
abbrev cX2_digitAt : ByteArray := prog_4_method_10_code
def yX2_digitAt : MethodName := ⟨RX2, "digitAt", "(I)I"⟩
def RX3 : String := "RoofOrdinances$Pad"
def TX3 : u_T := fun k => match k with
  | 0 => ("RoofOrdinances$Pad", "signs", "[C", true)
  | _ => ("RoofOrdinances$Pad", "length", "I", false)
def tyX3 : Nat → FieldType := fun k => match k with
  | 0 => .array .char
  | _ => .int
theorem nmX3 : ∀ a, a < 2 → ∀ b, b < 2 → a ≠ b → (TX3 a).2.1 ≠ (TX3 b).2.1 := by decide +kernel
theorem tyX3_ok : ∀ k, k < 2 → parseFieldDescriptor (TX3 k).2.2.1 = some (tyX3 k) := by decide +kernel
abbrev cX3_init : ByteArray := prog_5_method_1_code
def yX3_init : MethodName := ⟨RX3, "<init>", "()V"⟩
abbrev cX3_add : ByteArray := prog_5_method_2_code
def yX3_add : MethodName := ⟨RX3, "add", "(C)V"⟩
abbrev cX3_signAt : ByteArray := prog_5_method_3_code
def yX3_signAt : MethodName := ⟨RX3, "signAt", "(I)C"⟩
def RX4 : String := "RoofOrdinances$Plan"
def TX4 : u_T := fun k => match k with
  | _ => ("", "", "", false)
def tyX4 : Nat → FieldType := fun k => match k with
  | _ => .int
theorem nmX4 : ∀ a, a < 0 → ∀ b, b < 0 → a ≠ b → (TX4 a).2.1 ≠ (TX4 b).2.1 := by decide +kernel
theorem tyX4_ok : ∀ k, k < 0 → parseFieldDescriptor (TX4 k).2.2.1 = some (tyX4 k) := by decide +kernel
abbrev cX4_isGangway : ByteArray := prog_6_method_2_code
def yX4_isGangway : MethodName := ⟨RX4, "isGangway", "(I)Z"⟩
abbrev cX4_lesserRoof : ByteArray := prog_6_method_3_code
def yX4_lesserRoof : MethodName := ⟨RX4, "lesserRoof", "(I)I"⟩
abbrev cX4_greaterRoof : ByteArray := prog_6_method_4_code
def yX4_greaterRoof : MethodName := ⟨RX4, "greaterRoof", "(I)I"⟩
abbrev cX4_roofsOf : ByteArray := prog_6_method_5_code
def yX4_roofsOf : MethodName := ⟨RX4, "roofsOf", "(I)I"⟩
abbrev cX4_otherRoof : ByteArray := prog_6_method_6_code
def yX4_otherRoof : MethodName := ⟨RX4, "otherRoof", "(II)I"⟩
abbrev cX4_gangwaysOf : ByteArray := prog_6_method_7_code
def yX4_gangwaysOf : MethodName := ⟨RX4, "gangwaysOf", "(I)I"⟩
abbrev cX4_nextRoof : ByteArray := prog_6_method_8_code
def yX4_nextRoof : MethodName := ⟨RX4, "nextRoof", "(II)I"⟩
abbrev cX4_roofAndNext : ByteArray := prog_6_method_9_code
def yX4_roofAndNext : MethodName := ⟨RX4, "roofAndNext", "(III)I"⟩
abbrev cX4_roofAndNeighbours : ByteArray := prog_6_method_10_code
def yX4_roofAndNeighbours : MethodName := ⟨RX4, "roofAndNeighbours", "(I)I"⟩
def RX5 : String := "RoofOrdinances$Ways"
def TX5 : u_T := fun k => match k with
  | 0 => ("RoofOrdinances$Ways", "groups", "[I", true)
  | _ => ("RoofOrdinances$Ways", "strengths", "[I", true)
def tyX5 : Nat → FieldType := fun k => match k with
  | 0 => .array .int
  | _ => .array .int
theorem nmX5 : ∀ a, a < 2 → ∀ b, b < 2 → a ≠ b → (TX5 a).2.1 ≠ (TX5 b).2.1 := by decide +kernel
theorem tyX5_ok : ∀ k, k < 2 → parseFieldDescriptor (TX5 k).2.2.1 = some (tyX5 k) := by decide +kernel
abbrev cX5_init : ByteArray := prog_7_method_1_code
def yX5_init : MethodName := ⟨RX5, "<init>", "()V"⟩
abbrev cX5_strongestByJoining : ByteArray := prog_7_method_2_code
def yX5_strongestByJoining : MethodName := ⟨RX5, "strongestByJoining", "(LRoofOrdinances$City;II)I"⟩
abbrev cX5_joinOver : ByteArray := prog_7_method_3_code
def yX5_joinOver : MethodName := ⟨RX5, "joinOver", "(LRoofOrdinances$City;I)V"⟩
abbrev cX5_rename : ByteArray := prog_7_method_4_code
def yX5_rename : MethodName := ⟨RX5, "rename", "(II)V"⟩
abbrev cX5_strongestBySpreading : ByteArray := prog_7_method_5_code
def yX5_strongestBySpreading : MethodName := ⟨RX5, "strongestBySpreading", "(LRoofOrdinances$City;II)I"⟩
abbrev cX5_spread : ByteArray := prog_7_method_6_code
def yX5_spread : MethodName := ⟨RX5, "spread", "(LRoofOrdinances$City;)Z"⟩
abbrev cX5_raise : ByteArray := prog_7_method_7_code
def yX5_raise : MethodName := ⟨RX5, "raise", "(II)Z"⟩
abbrev cX5_roofsFrom : ByteArray := prog_7_method_8_code
def yX5_roofsFrom : MethodName := ⟨RX5, "roofsFrom", "(LRoofOrdinances$City;I)I"⟩
abbrev cX5_fewestWalks : ByteArray := prog_7_method_9_code
def yX5_fewestWalks : MethodName := ⟨RX5, "fewestWalks", "(LRoofOrdinances$City;II)I"⟩
abbrev cX5_oneWalkFurther : ByteArray := prog_7_method_10_code
def yX5_oneWalkFurther : MethodName := ⟨RX5, "oneWalkFurther", "(LRoofOrdinances$City;II)I"⟩
def RX6 : String := "RoofOrdinances"
def TX6 : u_T := fun k => match k with
  | 0 => ("RoofOrdinances", "city", "LRoofOrdinances$City;", true)
  | 1 => ("RoofOrdinances", "trial", "LRoofOrdinances$City;", true)
  | 2 => ("RoofOrdinances", "snapshot", "LRoofOrdinances$City;", true)
  | 3 => ("RoofOrdinances", "snapshotTaken", "Z", false)
  | 4 => ("RoofOrdinances", "history", "LRoofOrdinances$History;", true)
  | 5 => ("RoofOrdinances", "ways", "LRoofOrdinances$Ways;", true)
  | 6 => ("RoofOrdinances", "pad", "LRoofOrdinances$Pad;", true)
  | 7 => ("RoofOrdinances", "reader", "LRoofOrdinances$OrderReader;", true)
  | 8 => ("RoofOrdinances", "stopped", "Z", false)
  | 9 => ("RoofOrdinances", "stopCause", "I", false)
  | 10 => ("RoofOrdinances", "stopNumber", "I", false)
  | _ => ("RoofOrdinances", "stopPosition", "I", false)
def tyX6 : Nat → FieldType := fun k => match k with
  | 0 => .object "RoofOrdinances$City"
  | 1 => .object "RoofOrdinances$City"
  | 2 => .object "RoofOrdinances$City"
  | 3 => .boolean
  | 4 => .object "RoofOrdinances$History"
  | 5 => .object "RoofOrdinances$Ways"
  | 6 => .object "RoofOrdinances$Pad"
  | 7 => .object "RoofOrdinances$OrderReader"
  | 8 => .boolean
  | 9 => .int
  | 10 => .int
  | _ => .int
theorem nmX6 : ∀ a, a < 12 → ∀ b, b < 12 → a ≠ b → (TX6 a).2.1 ≠ (TX6 b).2.1 := by decide +kernel
theorem tyX6_ok : ∀ k, k < 12 → parseFieldDescriptor (TX6 k).2.2.1 = some (tyX6 k) := by decide +kernel
abbrev cX6_init : ByteArray := prog_1_method_1_code
def yX6_init : MethodName := ⟨RX6, "<init>", "()V"⟩
abbrev cX6_bears : ByteArray := prog_1_method_2_code
def yX6_bears : MethodName := ⟨RX6, "bears", "(II)I"⟩
abbrev cX6_wind : ByteArray := prog_1_method_3_code
def yX6_wind : MethodName := ⟨RX6, "wind", "(I)I"⟩
abbrev cX6_chimney : ByteArray := prog_1_method_4_code
def yX6_chimney : MethodName := ⟨RX6, "chimney", "(I)I"⟩
abbrev cX6_coop : ByteArray := prog_1_method_5_code
def yX6_coop : MethodName := ⟨RX6, "coop", "(I)I"⟩
abbrev cX6_owner : ByteArray := prog_1_method_6_code
def yX6_owner : MethodName := ⟨RX6, "owner", "(IIIZ)I"⟩
abbrev cX6_reach : ByteArray := prog_1_method_7_code
def yX6_reach : MethodName := ⟨RX6, "reach", "(I)I"⟩
abbrev cX6_hang : ByteArray := prog_1_method_8_code
def yX6_hang : MethodName := ⟨RX6, "hang", "(II)I"⟩
abbrev cX6_take : ByteArray := prog_1_method_9_code
def yX6_take : MethodName := ⟨RX6, "take", "(II)I"⟩
abbrev cX6_walk : ByteArray := prog_1_method_10_code
def yX6_walk : MethodName := ⟨RX6, "walk", "(II)I"⟩
abbrev cX6_day : ByteArray := prog_1_method_11_code
def yX6_day : MethodName := ⟨RX6, "day", "()I"⟩
abbrev cX6_append : ByteArray := prog_1_method_12_code
def yX6_append : MethodName := ⟨RX6, "append", "(I)I"⟩
abbrev cX6_clear : ByteArray := prog_1_method_13_code
def yX6_clear : MethodName := ⟨RX6, "clear", "()I"⟩
abbrev cX6_fault : ByteArray := prog_1_method_14_code
def yX6_fault : MethodName := ⟨RX6, "fault", "()I"⟩
abbrev cX6_run : ByteArray := prog_1_method_15_code
def yX6_run : MethodName := ⟨RX6, "run", "()I"⟩
abbrev cX6_why : ByteArray := prog_1_method_16_code
def yX6_why : MethodName := ⟨RX6, "why", "(I)I"⟩
abbrev cX6_roof : ByteArray := prog_1_method_17_code
def yX6_roof : MethodName := ⟨RX6, "roof", "(II)I"⟩
abbrev cX6_gangway : ByteArray := prog_1_method_18_code
def yX6_gangway : MethodName := ⟨RX6, "gangway", "(II)I"⟩
abbrev cX6_ownerOf : ByteArray := prog_1_method_19_code
def yX6_ownerOf : MethodName := ⟨RX6, "ownerOf", "(II)I"⟩
abbrev cX6_whyNotHang : ByteArray := prog_1_method_20_code
def yX6_whyNotHang : MethodName := ⟨RX6, "whyNotHang", "(II)I"⟩
abbrev cX6_strongest : ByteArray := prog_1_method_21_code
def yX6_strongest : MethodName := ⟨RX6, "strongest", "(III)I"⟩
abbrev cX6_steps : ByteArray := prog_1_method_22_code
def yX6_steps : MethodName := ⟨RX6, "steps", "(II)I"⟩
abbrev cX6_count : ByteArray := prog_1_method_23_code
def yX6_count : MethodName := ⟨RX6, "count", "(I)I"⟩
abbrev cX6_cleanness : ByteArray := prog_1_method_24_code
def yX6_cleanness : MethodName := ⟨RX6, "cleanness", "()D"⟩
abbrev cX6_ifWind : ByteArray := prog_1_method_25_code
def yX6_ifWind : MethodName := ⟨RX6, "ifWind", "(I)I"⟩
abbrev cX6_bestWind : ByteArray := prog_1_method_26_code
def yX6_bestWind : MethodName := ⟨RX6, "bestWind", "()I"⟩
abbrev cX6_ifDays : ByteArray := prog_1_method_27_code
def yX6_ifDays : MethodName := ⟨RX6, "ifDays", "(II)I"⟩
abbrev cX6_bestPlace : ByteArray := prog_1_method_28_code
def yX6_bestPlace : MethodName := ⟨RX6, "bestPlace", "(I)I"⟩
abbrev cX6_undo : ByteArray := prog_1_method_29_code
def yX6_undo : MethodName := ⟨RX6, "undo", "()I"⟩
abbrev cX6_save : ByteArray := prog_1_method_30_code
def yX6_save : MethodName := ⟨RX6, "save", "()I"⟩
abbrev cX6_restore : ByteArray := prog_1_method_31_code
def yX6_restore : MethodName := ⟨RX6, "restore", "()I"⟩
abbrev cX6_keepStop : ByteArray := prog_1_method_32_code
def yX6_keepStop : MethodName := ⟨RX6, "keepStop", "(II)V"⟩
abbrev cX6_carryOutOrder : ByteArray := prog_1_method_33_code
def yX6_carryOutOrder : MethodName := ⟨RX6, "carryOutOrder", "()I"⟩
abbrev cX6_causeIn : ByteArray := prog_1_method_34_code
def yX6_causeIn : MethodName := ⟨RX6, "causeIn", "(I)I"⟩
abbrev cX6_isWithin : ByteArray := prog_1_method_35_code
def yX6_isWithin : MethodName := ⟨RX6, "isWithin", "(III)Z"⟩
abbrev cX6_isRoof : ByteArray := prog_1_method_36_code
def yX6_isRoof : MethodName := ⟨RX6, "isRoof", "(I)Z"⟩
abbrev cX6_isOwner : ByteArray := prog_1_method_37_code
def yX6_isOwner : MethodName := ⟨RX6, "isOwner", "(I)Z"⟩
abbrev cX6_bitOf : ByteArray := prog_1_method_38_code
def yX6_bitOf : MethodName := ⟨RX6, "bitOf", "(II)I"⟩
abbrev cX6_isIn : ByteArray := prog_1_method_39_code
def yX6_isIn : MethodName := ⟨RX6, "isIn", "(II)Z"⟩
def RX7 : String := "RoofOrdinancesModel"
def TX7 : u_T := fun k => match k with
  | 0 => ("RoofOrdinancesModel", "s", "[I", true)
  | 1 => ("RoofOrdinancesModel", "aside", "[I", true)
  | 2 => ("RoofOrdinancesModel", "past", "[I", true)
  | 3 => ("RoofOrdinancesModel", "known", "I", false)
  | 4 => ("RoofOrdinancesModel", "kept", "[I", true)
  | 5 => ("RoofOrdinancesModel", "isKept", "Z", false)
  | 6 => ("RoofOrdinancesModel", "pad", "[I", true)
  | 7 => ("RoofOrdinancesModel", "length", "I", false)
  | 8 => ("RoofOrdinancesModel", "spot", "I", false)
  | 9 => ("RoofOrdinancesModel", "isForm", "Z", false)
  | 10 => ("RoofOrdinancesModel", "letter", "I", false)
  | 11 => ("RoofOrdinancesModel", "first", "I", false)
  | 12 => ("RoofOrdinancesModel", "second", "I", false)
  | 13 => ("RoofOrdinancesModel", "isStopped", "Z", false)
  | _ => ("RoofOrdinancesModel", "stop", "[I", true)
def tyX7 : Nat → FieldType := fun k => match k with
  | 0 => .array .int
  | 1 => .array .int
  | 2 => .array .int
  | 3 => .int
  | 4 => .array .int
  | 5 => .boolean
  | 6 => .array .int
  | 7 => .int
  | 8 => .int
  | 9 => .boolean
  | 10 => .int
  | 11 => .int
  | 12 => .int
  | 13 => .boolean
  | _ => .array .int
theorem nmX7 : ∀ a, a < 15 → ∀ b, b < 15 → a ≠ b → (TX7 a).2.1 ≠ (TX7 b).2.1 := by decide +kernel
theorem tyX7_ok : ∀ k, k < 15 → parseFieldDescriptor (TX7 k).2.2.1 = some (tyX7 k) := by decide +kernel
abbrev cX7_init : ByteArray := prog_9_method_1_code
def yX7_init : MethodName := ⟨RX7, "<init>", "()V"⟩
abbrev cX7_in : ByteArray := prog_9_method_3_code
def yX7_in : MethodName := ⟨RX7, "in", "(III)Z"⟩
abbrev cX7_copies : ByteArray := prog_9_method_4_code
def yX7_copies : MethodName := ⟨RX7, "copies", "([II[II)V"⟩
abbrev cX7_records : ByteArray := prog_9_method_5_code
def yX7_records : MethodName := ⟨RX7, "records", "()V"⟩
abbrev cX7_isRoof : ByteArray := prog_9_method_6_code
def yX7_isRoof : MethodName := ⟨RX7, "isRoof", "(I)Z"⟩
abbrev cX7_isOwner : ByteArray := prog_9_method_7_code
def yX7_isOwner : MethodName := ⟨RX7, "isOwner", "(I)Z"⟩
abbrev cX7_isGangway : ByteArray := prog_9_method_8_code
def yX7_isGangway : MethodName := ⟨RX7, "isGangway", "(I)Z"⟩
abbrev cX7_lesserOf : ByteArray := prog_9_method_9_code
def yX7_lesserOf : MethodName := ⟨RX7, "lesserOf", "(I)I"⟩
abbrev cX7_greaterOf : ByteArray := prog_9_method_10_code
def yX7_greaterOf : MethodName := ⟨RX7, "greaterOf", "(I)I"⟩
abbrev cX7_isOfRoof : ByteArray := prog_9_method_11_code
def yX7_isOfRoof : MethodName := ⟨RX7, "isOfRoof", "(II)Z"⟩
abbrev cX7_otherOf : ByteArray := prog_9_method_12_code
def yX7_otherOf : MethodName := ⟨RX7, "otherOf", "(II)I"⟩
abbrev cX7_isIn : ByteArray := prog_9_method_13_code
def yX7_isIn : MethodName := ⟨RX7, "isIn", "(II)Z"⟩
abbrev cX7_ones : ByteArray := prog_9_method_14_code
def yX7_ones : MethodName := ⟨RX7, "ones", "(I)I"⟩
abbrev cX7_of : ByteArray := prog_9_method_15_code
def yX7_of : MethodName := ⟨RX7, "of", "(II)I"⟩
abbrev cX7_lays : ByteArray := prog_9_method_16_code
def yX7_lays : MethodName := ⟨RX7, "lays", "(III)V"⟩
abbrev cX7_ofOwner : ByteArray := prog_9_method_17_code
def yX7_ofOwner : MethodName := ⟨RX7, "ofOwner", "(II)I"⟩
abbrev cX7_hasLine : ByteArray := prog_9_method_18_code
def yX7_hasLine : MethodName := ⟨RX7, "hasLine", "(I)Z"⟩
abbrev cX7_isClean : ByteArray := prog_9_method_19_code
def yX7_isClean : MethodName := ⟨RX7, "isClean", "(I)Z"⟩
abbrev cX7_bothOf : ByteArray := prog_9_method_20_code
def yX7_bothOf : MethodName := ⟨RX7, "bothOf", "(I)I"⟩
abbrev cX7_nextTo : ByteArray := prog_9_method_21_code
def yX7_nextTo : MethodName := ⟨RX7, "nextTo", "(II)I"⟩
abbrev cX7_smokeOf : ByteArray := prog_9_method_22_code
def yX7_smokeOf : MethodName := ⟨RX7, "smokeOf", "(II)I"⟩
abbrev cX7_smokeBy : ByteArray := prog_9_method_23_code
def yX7_smokeBy : MethodName := ⟨RX7, "smokeBy", "(I)I"⟩
abbrev cX7_smoke : ByteArray := prog_9_method_24_code
def yX7_smoke : MethodName := ⟨RX7, "smoke", "()I"⟩
abbrev cX7_nearCoops : ByteArray := prog_9_method_25_code
def yX7_nearCoops : MethodName := ⟨RX7, "nearCoops", "()I"⟩
abbrev cX7_reasonToHang : ByteArray := prog_9_method_26_code
def yX7_reasonToHang : MethodName := ⟨RX7, "reasonToHang", "(II)I"⟩
abbrev cX7_reasonToWalk : ByteArray := prog_9_method_27_code
def yX7_reasonToWalk : MethodName := ⟨RX7, "reasonToWalk", "(III)I"⟩
abbrev cX7_refuses : ByteArray := prog_9_method_28_code
def yX7_refuses : MethodName := ⟨RX7, "refuses", "(I)I"⟩
abbrev cX7_linesNow : ByteArray := prog_9_method_29_code
def yX7_linesNow : MethodName := ⟨RX7, "linesNow", "()I"⟩
abbrev cX7_cleanNow : ByteArray := prog_9_method_30_code
def yX7_cleanNow : MethodName := ⟨RX7, "cleanNow", "()I"⟩
abbrev cX7_removes : ByteArray := prog_9_method_31_code
def yX7_removes : MethodName := ⟨RX7, "removes", "(I)V"⟩
abbrev cX7_goHang : ByteArray := prog_9_method_32_code
def yX7_goHang : MethodName := ⟨RX7, "goHang", "(II)I"⟩
abbrev cX7_goTake : ByteArray := prog_9_method_33_code
def yX7_goTake : MethodName := ⟨RX7, "goTake", "(II)I"⟩
abbrev cX7_goWalk : ByteArray := prog_9_method_34_code
def yX7_goWalk : MethodName := ⟨RX7, "goWalk", "(II)I"⟩
abbrev cX7_goChimney : ByteArray := prog_9_method_35_code
def yX7_goChimney : MethodName := ⟨RX7, "goChimney", "(I)I"⟩
abbrev cX7_goDay : ByteArray := prog_9_method_36_code
def yX7_goDay : MethodName := ⟨RX7, "goDay", "()I"⟩
abbrev cX7_bears : ByteArray := prog_9_method_37_code
def yX7_bears : MethodName := ⟨RX7, "bears", "(II)I"⟩
abbrev cX7_wind : ByteArray := prog_9_method_38_code
def yX7_wind : MethodName := ⟨RX7, "wind", "(I)I"⟩
abbrev cX7_chimney : ByteArray := prog_9_method_39_code
def yX7_chimney : MethodName := ⟨RX7, "chimney", "(I)I"⟩
abbrev cX7_coop : ByteArray := prog_9_method_40_code
def yX7_coop : MethodName := ⟨RX7, "coop", "(I)I"⟩
abbrev cX7_owner : ByteArray := prog_9_method_41_code
def yX7_owner : MethodName := ⟨RX7, "owner", "(IIIZ)I"⟩
abbrev cX7_reach : ByteArray := prog_9_method_42_code
def yX7_reach : MethodName := ⟨RX7, "reach", "(I)I"⟩
abbrev cX7_hang : ByteArray := prog_9_method_43_code
def yX7_hang : MethodName := ⟨RX7, "hang", "(II)I"⟩
abbrev cX7_take : ByteArray := prog_9_method_44_code
def yX7_take : MethodName := ⟨RX7, "take", "(II)I"⟩
abbrev cX7_walk : ByteArray := prog_9_method_45_code
def yX7_walk : MethodName := ⟨RX7, "walk", "(II)I"⟩
abbrev cX7_day : ByteArray := prog_9_method_46_code
def yX7_day : MethodName := ⟨RX7, "day", "()I"⟩
abbrev cX7_append : ByteArray := prog_9_method_47_code
def yX7_append : MethodName := ⟨RX7, "append", "(I)I"⟩
abbrev cX7_clear : ByteArray := prog_9_method_48_code
def yX7_clear : MethodName := ⟨RX7, "clear", "()I"⟩
abbrev cX7_here : ByteArray := prog_9_method_49_code
def yX7_here : MethodName := ⟨RX7, "here", "()I"⟩
abbrev cX7_takes : ByteArray := prog_9_method_50_code
def yX7_takes : MethodName := ⟨RX7, "takes", "(Z)V"⟩
abbrev cX7_isNumber : ByteArray := prog_9_method_51_code
def yX7_isNumber : MethodName := ⟨RX7, "isNumber", "(ZI)Z"⟩
abbrev cX7_takesNumber : ByteArray := prog_9_method_52_code
def yX7_takesNumber : MethodName := ⟨RX7, "takesNumber", "(Z)I"⟩
abbrev cX7_takesOrder : ByteArray := prog_9_method_53_code
def yX7_takesOrder : MethodName := ⟨RX7, "takesOrder", "()V"⟩
abbrev cX7_isText : ByteArray := prog_9_method_54_code
def yX7_isText : MethodName := ⟨RX7, "isText", "()Z"⟩
abbrev cX7_fault : ByteArray := prog_9_method_55_code
def yX7_fault : MethodName := ⟨RX7, "fault", "()I"⟩
abbrev cX7_doesOrder : ByteArray := prog_9_method_56_code
def yX7_doesOrder : MethodName := ⟨RX7, "doesOrder", "()I"⟩
abbrev cX7_run : ByteArray := prog_9_method_57_code
def yX7_run : MethodName := ⟨RX7, "run", "()I"⟩
abbrev cX7_why : ByteArray := prog_9_method_58_code
def yX7_why : MethodName := ⟨RX7, "why", "(I)I"⟩
abbrev cX7_chimneysOver : ByteArray := prog_9_method_59_code
def yX7_chimneysOver : MethodName := ⟨RX7, "chimneysOver", "(I)I"⟩
abbrev cX7_ownersAt : ByteArray := prog_9_method_60_code
def yX7_ownersAt : MethodName := ⟨RX7, "ownersAt", "(I)I"⟩
abbrev cX7_strongAt : ByteArray := prog_9_method_61_code
def yX7_strongAt : MethodName := ⟨RX7, "strongAt", "(I)I"⟩
abbrev cX7_linesAt : ByteArray := prog_9_method_62_code
def yX7_linesAt : MethodName := ⟨RX7, "linesAt", "(I)I"⟩
abbrev cX7_comeTo : ByteArray := prog_9_method_63_code
def yX7_comeTo : MethodName := ⟨RX7, "comeTo", "(II)I"⟩
abbrev cX7_roof : ByteArray := prog_9_method_64_code
def yX7_roof : MethodName := ⟨RX7, "roof", "(II)I"⟩
abbrev cX7_gangway : ByteArray := prog_9_method_65_code
def yX7_gangway : MethodName := ⟨RX7, "gangway", "(II)I"⟩
abbrev cX7_linesOf : ByteArray := prog_9_method_66_code
def yX7_linesOf : MethodName := ⟨RX7, "linesOf", "(IZ)I"⟩
abbrev cX7_walksNow : ByteArray := prog_9_method_67_code
def yX7_walksNow : MethodName := ⟨RX7, "walksNow", "(I)I"⟩
abbrev cX7_hangsNow : ByteArray := prog_9_method_68_code
def yX7_hangsNow : MethodName := ⟨RX7, "hangsNow", "(I)I"⟩
abbrev cX7_ownerOf : ByteArray := prog_9_method_69_code
def yX7_ownerOf : MethodName := ⟨RX7, "ownerOf", "(II)I"⟩
abbrev cX7_whyNotHang : ByteArray := prog_9_method_70_code
def yX7_whyNotHang : MethodName := ⟨RX7, "whyNotHang", "(II)I"⟩
abbrev cX7_strengthOf : ByteArray := prog_9_method_71_code
def yX7_strengthOf : MethodName := ⟨RX7, "strengthOf", "(II)I"⟩
abbrev cX7_strongest : ByteArray := prog_9_method_72_code
def yX7_strongest : MethodName := ⟨RX7, "strongest", "(III)I"⟩
abbrev cX7_furtherFrom : ByteArray := prog_9_method_73_code
def yX7_furtherFrom : MethodName := ⟨RX7, "furtherFrom", "(II)I"⟩
abbrev cX7_stepsOf : ByteArray := prog_9_method_74_code
def yX7_stepsOf : MethodName := ⟨RX7, "stepsOf", "(II)I"⟩
abbrev cX7_steps : ByteArray := prog_9_method_75_code
def yX7_steps : MethodName := ⟨RX7, "steps", "(II)I"⟩
abbrev cX7_sumOf : ByteArray := prog_9_method_76_code
def yX7_sumOf : MethodName := ⟨RX7, "sumOf", "(I)I"⟩
abbrev cX7_smokedBy : ByteArray := prog_9_method_77_code
def yX7_smokedBy : MethodName := ⟨RX7, "smokedBy", "(I)I"⟩
abbrev cX7_count : ByteArray := prog_9_method_78_code
def yX7_count : MethodName := ⟨RX7, "count", "(I)I"⟩
abbrev cX7_cleanness : ByteArray := prog_9_method_79_code
def yX7_cleanness : MethodName := ⟨RX7, "cleanness", "()D"⟩
abbrev cX7_ifWind : ByteArray := prog_9_method_80_code
def yX7_ifWind : MethodName := ⟨RX7, "ifWind", "(I)I"⟩
abbrev cX7_bestWind : ByteArray := prog_9_method_81_code
def yX7_bestWind : MethodName := ⟨RX7, "bestWind", "()I"⟩
abbrev cX7_ifDays : ByteArray := prog_9_method_82_code
def yX7_ifDays : MethodName := ⟨RX7, "ifDays", "(II)I"⟩
abbrev cX7_windsOver : ByteArray := prog_9_method_83_code
def yX7_windsOver : MethodName := ⟨RX7, "windsOver", "(I)I"⟩
abbrev cX7_bestPlace : ByteArray := prog_9_method_84_code
def yX7_bestPlace : MethodName := ⟨RX7, "bestPlace", "(I)I"⟩
abbrev cX7_undo : ByteArray := prog_9_method_85_code
def yX7_undo : MethodName := ⟨RX7, "undo", "()I"⟩
abbrev cX7_save : ByteArray := prog_9_method_86_code
def yX7_save : MethodName := ⟨RX7, "save", "()I"⟩
abbrev cX7_restore : ByteArray := prog_9_method_87_code
def yX7_restore : MethodName := ⟨RX7, "restore", "()I"⟩
def RJ6 : String := "java/lang/Integer"
def TJ6 : u_T := fun k => match k with
  | _ => ("", "", "", false)
abbrev cJ6_bitCount_0f7a4 : ByteArray := prog_10_method_49_code
def yJ6_bitCount_0f7a4 : MethodName := ⟨RJ6, "bitCount", "(I)I"⟩
def RJ9 : String := "java/lang/Math"
def TJ9 : u_T := fun k => match k with
  | _ => ("", "", "", false)
abbrev cJ9_max_7cf53 : ByteArray := prog_11_method_65_code
def yJ9_max_7cf53 : MethodName := ⟨RJ9, "max", "(II)I"⟩
abbrev cJ9_min_7cf53 : ByteArray := prog_11_method_69_code
def yJ9_min_7cf53 : MethodName := ⟨RJ9, "min", "(II)I"⟩
def RJ10 : String := "java/lang/System"
def TJ10 : u_T := fun k => match k with
  | _ => ("", "", "", false)
def RJ7 : String := "java/util/Arrays"
def TJ7 : u_T := fun k => match k with
  | _ => ("", "", "", false)
abbrev cJ7_fill_53178 : ByteArray := prog_13_method_103_code
def yJ7_fill_53178 : MethodName := ⟨RJ7, "fill", "([II)V"⟩
def RL : String := "RoofOrdinancesLaw"
abbrev cL_law : ByteArray := code
def yL_law : MethodName := ⟨RL, "law", "([I)Z"⟩
abbrev vwCl : List vw_C := [(RX0, TX0, 19), (RX1, TX1, 2), (RX2, TX2, 6), (RX3, TX3, 2), (RX5, TX5, 2), (RX6, TX6, 12), (RX7, TX7, 15)]
end
section
/-- the tables' words that stay: every method's words are these, behind its own code -/
def TB : List Cond := lw_tbl.filter goodWord
theorem TB_of {w : Cond} (h : w ∈ lw_tbl) (hg : goodWord w = true) : w ∈ TB := List.mem_filter.mpr ⟨h, hg⟩
theorem TB_good {w : Cond} (h : w ∈ TB) : (w.onTables && w.keeps) = true ∨ ∃ ty, w = .arrayClass ty := good_of_word (List.mem_filter.mp h).2
theorem tb_1 {w : Cond} (h : w ∈ tables_1_1) : w ∈ lw_tbl := List.mem_append_right _ (List.mem_append_left _ h)
theorem tb_2 {w : Cond} (h : w ∈ tables_1_2) : w ∈ lw_tbl := List.mem_append_right _ (List.mem_append_right _ (List.mem_append_left _ h))
theorem tb_3 {w : Cond} (h : w ∈ tables_1_3) : w ∈ lw_tbl := List.mem_append_right _ (List.mem_append_right _ (List.mem_append_right _ (List.mem_append_left _ h)))
theorem tb_4 {w : Cond} (h : w ∈ tables_1_4) : w ∈ lw_tbl := List.mem_append_right _ (List.mem_append_right _ (List.mem_append_right _ (List.mem_append_right _ (List.mem_append_left _ h))))
theorem tb_5 {w : Cond} (h : w ∈ tables_1_5) : w ∈ lw_tbl := List.mem_append_right _ (List.mem_append_right _ (List.mem_append_right _ (List.mem_append_right _ (List.mem_append_right _ (h)))))
theorem tb_0 {w : Cond} (h : w ∈ k2_sels lw_privs) : w ∈ lw_tbl := List.mem_append_left _ h
theorem win_RL : Cond.initialized RL ∈ TB := TB_of (tb_1 (List.mem_of_getElem? (i := 0) rfl)) rfl
theorem win_RX6 : Cond.initialized RX6 ∈ TB := TB_of (tb_1 (List.mem_of_getElem? (i := 1) rfl)) rfl
theorem win_RX0 : Cond.initialized RX0 ∈ TB := TB_of (tb_1 (List.mem_of_getElem? (i := 2) rfl)) rfl
theorem win_RX4 : Cond.initialized RX4 ∈ TB := TB_of (tb_1 (List.mem_of_getElem? (i := 3) rfl)) rfl
theorem win_RJ7 : Cond.initialized RJ7 ∈ TB := TB_of (tb_1 (List.mem_of_getElem? (i := 4) rfl)) rfl
theorem win_RX1 : Cond.initialized RX1 ∈ TB := TB_of (tb_1 (List.mem_of_getElem? (i := 5) rfl)) rfl
theorem win_RX5 : Cond.initialized RX5 ∈ TB := TB_of (tb_1 (List.mem_of_getElem? (i := 6) rfl)) rfl
theorem win_RX3 : Cond.initialized RX3 ∈ TB := TB_of (tb_1 (List.mem_of_getElem? (i := 7) rfl)) rfl
theorem win_RX2 : Cond.initialized RX2 ∈ TB := TB_of (tb_1 (List.mem_of_getElem? (i := 8) rfl)) rfl
theorem win_RX7 : Cond.initialized RX7 ∈ TB := TB_of (tb_1 (List.mem_of_getElem? (i := 9) rfl)) rfl
theorem win_RJ10 : Cond.initialized RJ10 ∈ TB := TB_of (tb_1 (List.mem_of_getElem? (i := 10) rfl)) rfl
theorem win_RJ9 : Cond.initialized RJ9 ∈ TB := TB_of (tb_1 (List.mem_of_getElem? (i := 11) rfl)) rfl
theorem win_RJ6 : Cond.initialized RJ6 ∈ TB := TB_of (tb_1 (List.mem_of_getElem? (i := 12) rfl)) rfl
theorem wcl_RL_7 : Cond.classLink RL 7 RX6 ∈ TB := TB_of (tb_1 (List.mem_of_getElem? (i := 13) rfl)) rfl
theorem wis_RX6 : Cond.instantiable RX6 12 ∈ TB := TB_of (tb_1 (List.mem_of_getElem? (i := 14) rfl)) rfl
theorem wml_RL_9 : Cond.methodLink RL 9 yX6_init ∈ TB := TB_of (tb_1 (List.mem_of_getElem? (i := 15) rfl)) rfl
theorem wim_X6_init : Cond.instanceMethod yX6_init ∈ TB := TB_of (tb_1 (List.mem_of_getElem? (i := 16) rfl)) rfl
theorem wcd_X6_init : Cond.code yX6_init cX6_init 1 none ∈ TB := TB_of (tb_1 (List.mem_of_getElem? (i := 17) rfl)) rfl
theorem wml_RX6_1 : Cond.methodLink RX6 1 objectInit ∈ TB := TB_of (tb_1 (List.mem_of_getElem? (i := 18) rfl)) rfl
theorem wim_obj : Cond.instanceMethod objectInit ∈ TB := TB_of (tb_1 (List.mem_of_getElem? (i := 19) rfl)) rfl
theorem wcd_obj : Cond.code objectInit ⟨#[0xb1]⟩ 1 none ∈ TB := TB_of (tb_1 (List.mem_of_getElem? (i := 20) rfl)) rfl
theorem wcl_RX6_7 : Cond.classLink RX6 7 RX0 ∈ TB := TB_of (tb_1 (List.mem_of_getElem? (i := 21) rfl)) rfl
theorem wis_RX0 : Cond.instantiable RX0 19 ∈ TB := TB_of (tb_1 (List.mem_of_getElem? (i := 22) rfl)) rfl
theorem wml_RX6_9 : Cond.methodLink RX6 9 yX0_init ∈ TB := TB_of (tb_1 (List.mem_of_getElem? (i := 23) rfl)) rfl
theorem wim_X0_init : Cond.instanceMethod yX0_init ∈ TB := TB_of (tb_1 (List.mem_of_getElem? (i := 24) rfl)) rfl
theorem wcd_X0_init : Cond.code yX0_init cX0_init 2 none ∈ TB := TB_of (tb_1 (List.mem_of_getElem? (i := 25) rfl)) rfl
theorem wml_RX0_3 : Cond.methodLink RX0 3 objectInit ∈ TB := TB_of (tb_1 (List.mem_of_getElem? (i := 26) rfl)) rfl
theorem wml_RX0_46 : Cond.methodLink RX0 46 yX4_isGangway ∈ TB := TB_of (tb_1 (List.mem_of_getElem? (i := 27) rfl)) rfl
theorem wst_X4_isGangway : Cond.static yX4_isGangway ∈ TB := TB_of (tb_1 (List.mem_of_getElem? (i := 28) rfl)) rfl
theorem wcd_X4_isGangway : Cond.code yX4_isGangway cX4_isGangway 1 (some .boolean) ∈ TB := TB_of (tb_1 (List.mem_of_getElem? (i := 29) rfl)) rfl
theorem wst_X6_isWithin : Cond.static yX6_isWithin ∈ TB := TB_of (tb_1 (List.mem_of_getElem? (i := 31) rfl)) rfl
theorem wcd_X6_isWithin : Cond.code yX6_isWithin cX6_isWithin 3 (some .boolean) ∈ TB := TB_of (tb_1 (List.mem_of_getElem? (i := 32) rfl)) rfl
theorem wml_RX0_52 : Cond.methodLink RX0 52 yJ7_fill_53178 ∈ TB := TB_of (tb_1 (List.mem_of_getElem? (i := 33) rfl)) rfl
theorem wst_J7_fill_53178 : Cond.static yJ7_fill_53178 ∈ TB := TB_of (tb_1 (List.mem_of_getElem? (i := 34) rfl)) rfl
theorem wcd_J7_fill_53178 : Cond.code yJ7_fill_53178 cJ7_fill_53178 4 none ∈ TB := TB_of (tb_1 (List.mem_of_getElem? (i := 35) rfl)) rfl
theorem wco_RX0_58 : Cond.constant RX0 58 65535 ∈ TB := TB_of (tb_1 (List.mem_of_getElem? (i := 36) rfl)) rfl
theorem wfl_RX0_9 : Cond.fieldLink RX0 9 "RoofOrdinances$City" "borne" "[I" ∈ TB := TB_of (tb_1 (List.mem_of_getElem? (i := 37) rfl)) rfl
theorem wfl_RX6_66 : Cond.fieldLink RX6 66 "RoofOrdinances$City" "borne" "[I" ∈ TB := TB_of (tb_1 (List.mem_of_getElem? (i := 38) rfl)) rfl
theorem wfl_RX5_28 : Cond.fieldLink RX5 28 "RoofOrdinances$City" "borne" "[I" ∈ TB := TB_of (tb_1 (List.mem_of_getElem? (i := 39) rfl)) rfl
theorem wfl_RX0_15 : Cond.fieldLink RX0 15 "RoofOrdinances$City" "hangers" "[I" ∈ TB := TB_of (tb_1 (List.mem_of_getElem? (i := 40) rfl)) rfl
theorem wfl_RX6_205 : Cond.fieldLink RX6 205 "RoofOrdinances$City" "hangers" "[I" ∈ TB := TB_of (tb_1 (List.mem_of_getElem? (i := 41) rfl)) rfl
theorem wfl_RX0_18 : Cond.fieldLink RX0 18 "RoofOrdinances$City" "soot" "[I" ∈ TB := TB_of (tb_1 (List.mem_of_getElem? (i := 42) rfl)) rfl
theorem wfl_RX6_208 : Cond.fieldLink RX6 208 "RoofOrdinances$City" "soot" "[I" ∈ TB := TB_of (tb_1 (List.mem_of_getElem? (i := 43) rfl)) rfl
theorem wfl_RX0_21 : Cond.fieldLink RX0 21 "RoofOrdinances$City" "spots" "[I" ∈ TB := TB_of (tb_1 (List.mem_of_getElem? (i := 44) rfl)) rfl
theorem wfl_RX6_211 : Cond.fieldLink RX6 211 "RoofOrdinances$City" "spots" "[I" ∈ TB := TB_of (tb_1 (List.mem_of_getElem? (i := 45) rfl)) rfl
theorem wfl_RX0_24 : Cond.fieldLink RX0 24 "RoofOrdinances$City" "weights" "[I" ∈ TB := TB_of (tb_1 (List.mem_of_getElem? (i := 46) rfl)) rfl
theorem wfl_RX6_101 : Cond.fieldLink RX6 101 "RoofOrdinances$City" "weights" "[I" ∈ TB := TB_of (tb_1 (List.mem_of_getElem? (i := 47) rfl)) rfl
theorem wfl_RX0_27 : Cond.fieldLink RX0 27 "RoofOrdinances$City" "keys" "[I" ∈ TB := TB_of (tb_1 (List.mem_of_getElem? (i := 48) rfl)) rfl
theorem wfl_RX6_104 : Cond.fieldLink RX6 104 "RoofOrdinances$City" "keys" "[I" ∈ TB := TB_of (tb_1 (List.mem_of_getElem? (i := 49) rfl)) rfl
theorem wfl_RX0_30 : Cond.fieldLink RX0 30 "RoofOrdinances$City" "places" "[I" ∈ TB := TB_of (tb_1 (List.mem_of_getElem? (i := 50) rfl)) rfl
theorem wfl_RX5_70 : Cond.fieldLink RX5 70 "RoofOrdinances$City" "places" "[I" ∈ TB := TB_of (tb_1 (List.mem_of_getElem? (i := 51) rfl)) rfl
theorem wfl_RX6_220 : Cond.fieldLink RX6 220 "RoofOrdinances$City" "places" "[I" ∈ TB := TB_of (tb_1 (List.mem_of_getElem? (i := 52) rfl)) rfl
theorem wfl_RX0_33 : Cond.fieldLink RX0 33 "RoofOrdinances$City" "walks" "[I" ∈ TB := TB_of (tb_1 (List.mem_of_getElem? (i := 53) rfl)) rfl
theorem wfl_RX6_229 : Cond.fieldLink RX6 229 "RoofOrdinances$City" "walks" "[I" ∈ TB := TB_of (tb_1 (List.mem_of_getElem? (i := 54) rfl)) rfl
theorem wfl_RX0_65 : Cond.fieldLink RX0 65 "RoofOrdinances$City" "truces" "I" ∈ TB := TB_of (tb_1 (List.mem_of_getElem? (i := 55) rfl)) rfl
theorem wfl_RX6_217 : Cond.fieldLink RX6 217 "RoofOrdinances$City" "truces" "I" ∈ TB := TB_of (tb_1 (List.mem_of_getElem? (i := 56) rfl)) rfl
theorem wfl_RX0_68 : Cond.fieldLink RX0 68 "RoofOrdinances$City" "chimneys" "I" ∈ TB := TB_of (tb_1 (List.mem_of_getElem? (i := 57) rfl)) rfl
theorem wfl_RX6_171 : Cond.fieldLink RX6 171 "RoofOrdinances$City" "chimneys" "I" ∈ TB := TB_of (tb_1 (List.mem_of_getElem? (i := 58) rfl)) rfl
theorem wfl_RX0_71 : Cond.fieldLink RX0 71 "RoofOrdinances$City" "coops" "I" ∈ TB := TB_of (tb_1 (List.mem_of_getElem? (i := 59) rfl)) rfl
theorem wfl_RX6_94 : Cond.fieldLink RX6 94 "RoofOrdinances$City" "coops" "I" ∈ TB := TB_of (tb_1 (List.mem_of_getElem? (i := 60) rfl)) rfl
theorem wfl_RX0_36 : Cond.fieldLink RX0 36 "RoofOrdinances$City" "windTo" "I" ∈ TB := TB_of (tb_1 (List.mem_of_getElem? (i := 61) rfl)) rfl
theorem wfl_RX6_74 : Cond.fieldLink RX6 74 "RoofOrdinances$City" "windTo" "I" ∈ TB := TB_of (tb_1 (List.mem_of_getElem? (i := 62) rfl)) rfl
theorem wfl_RX0_40 : Cond.fieldLink RX0 40 "RoofOrdinances$City" "smokeReach" "I" ∈ TB := TB_of (tb_1 (List.mem_of_getElem? (i := 63) rfl)) rfl
theorem wfl_RX6_111 : Cond.fieldLink RX6 111 "RoofOrdinances$City" "smokeReach" "I" ∈ TB := TB_of (tb_1 (List.mem_of_getElem? (i := 64) rfl)) rfl
theorem wfl_RX0_74 : Cond.fieldLink RX0 74 "RoofOrdinances$City" "dayNumber" "I" ∈ TB := TB_of (tb_1 (List.mem_of_getElem? (i := 65) rfl)) rfl
theorem wfl_RX0_43 : Cond.fieldLink RX0 43 "RoofOrdinances$City" "lot" "I" ∈ TB := TB_of (tb_1 (List.mem_of_getElem? (i := 66) rfl)) rfl
theorem wfl_RX0_77 : Cond.fieldLink RX0 77 "RoofOrdinances$City" "hung" "I" ∈ TB := TB_of (tb_1 (List.mem_of_getElem? (i := 67) rfl)) rfl
theorem wfl_RX0_80 : Cond.fieldLink RX0 80 "RoofOrdinances$City" "taken" "I" ∈ TB := TB_of (tb_1 (List.mem_of_getElem? (i := 68) rfl)) rfl
theorem wfl_RX0_83 : Cond.fieldLink RX0 83 "RoofOrdinances$City" "fallen" "I" ∈ TB := TB_of (tb_1 (List.mem_of_getElem? (i := 69) rfl)) rfl
theorem wfl_RX0_86 : Cond.fieldLink RX0 86 "RoofOrdinances$City" "refused" "I" ∈ TB := TB_of (tb_1 (List.mem_of_getElem? (i := 70) rfl)) rfl
theorem wla_RX0_borne : Cond.laysFinal RX0 "RoofOrdinances$City" "borne" "[I" ∈ TB := TB_of (tb_1 (List.mem_of_getElem? (i := 71) rfl)) rfl
theorem wla_RX0_hangers : Cond.laysFinal RX0 "RoofOrdinances$City" "hangers" "[I" ∈ TB := TB_of (tb_1 (List.mem_of_getElem? (i := 73) rfl)) rfl
theorem wla_RX0_soot : Cond.laysFinal RX0 "RoofOrdinances$City" "soot" "[I" ∈ TB := TB_of (tb_1 (List.mem_of_getElem? (i := 75) rfl)) rfl
theorem wla_RX0_spots : Cond.laysFinal RX0 "RoofOrdinances$City" "spots" "[I" ∈ TB := TB_of (tb_1 (List.mem_of_getElem? (i := 77) rfl)) rfl
theorem wla_RX0_weights : Cond.laysFinal RX0 "RoofOrdinances$City" "weights" "[I" ∈ TB := TB_of (tb_1 (List.mem_of_getElem? (i := 79) rfl)) rfl
theorem wla_RX0_keys : Cond.laysFinal RX0 "RoofOrdinances$City" "keys" "[I" ∈ TB := TB_of (tb_1 (List.mem_of_getElem? (i := 81) rfl)) rfl
theorem wla_RX0_places : Cond.laysFinal RX0 "RoofOrdinances$City" "places" "[I" ∈ TB := TB_of (tb_1 (List.mem_of_getElem? (i := 83) rfl)) rfl
theorem wla_RX0_walks : Cond.laysFinal RX0 "RoofOrdinances$City" "walks" "[I" ∈ TB := TB_of (tb_1 (List.mem_of_getElem? (i := 85) rfl)) rfl
theorem wla_RX0_truces : Cond.lays RX0 "RoofOrdinances$City" "truces" "I" ∈ TB := TB_of (tb_1 (List.mem_of_getElem? (i := 87) rfl)) rfl
theorem wla_RX0_chimneys : Cond.lays RX0 "RoofOrdinances$City" "chimneys" "I" ∈ TB := TB_of (tb_1 (List.mem_of_getElem? (i := 89) rfl)) rfl
theorem wla_RX0_coops : Cond.lays RX0 "RoofOrdinances$City" "coops" "I" ∈ TB := TB_of (tb_1 (List.mem_of_getElem? (i := 91) rfl)) rfl
theorem wla_RX0_windTo : Cond.lays RX0 "RoofOrdinances$City" "windTo" "I" ∈ TB := TB_of (tb_1 (List.mem_of_getElem? (i := 93) rfl)) rfl
theorem wla_RX0_smokeReach : Cond.lays RX0 "RoofOrdinances$City" "smokeReach" "I" ∈ TB := TB_of (tb_1 (List.mem_of_getElem? (i := 95) rfl)) rfl
theorem wla_RX0_dayNumber : Cond.lays RX0 "RoofOrdinances$City" "dayNumber" "I" ∈ TB := TB_of (tb_1 (List.mem_of_getElem? (i := 97) rfl)) rfl
theorem wla_RX0_lot : Cond.lays RX0 "RoofOrdinances$City" "lot" "I" ∈ TB := TB_of (tb_1 (List.mem_of_getElem? (i := 99) rfl)) rfl
theorem wla_RX0_hung : Cond.lays RX0 "RoofOrdinances$City" "hung" "I" ∈ TB := TB_of (tb_1 (List.mem_of_getElem? (i := 101) rfl)) rfl
theorem wla_RX0_taken : Cond.lays RX0 "RoofOrdinances$City" "taken" "I" ∈ TB := TB_of (tb_1 (List.mem_of_getElem? (i := 103) rfl)) rfl
theorem wla_RX0_fallen : Cond.lays RX0 "RoofOrdinances$City" "fallen" "I" ∈ TB := TB_of (tb_1 (List.mem_of_getElem? (i := 105) rfl)) rfl
theorem wla_RX0_refused : Cond.lays RX0 "RoofOrdinances$City" "refused" "I" ∈ TB := TB_of (tb_1 (List.mem_of_getElem? (i := 107) rfl)) rfl
theorem wac_int : Cond.arrayClass .int ∈ TB := TB_of (tb_1 (List.mem_of_getElem? (i := 110) rfl)) rfl
theorem wcl_RX6_22 : Cond.classLink RX6 22 RX1 ∈ TB := TB_of (tb_1 (List.mem_of_getElem? (i := 111) rfl)) rfl
theorem wis_RX1 : Cond.instantiable RX1 2 ∈ TB := TB_of (tb_1 (List.mem_of_getElem? (i := 112) rfl)) rfl
theorem wml_RX6_24 : Cond.methodLink RX6 24 yX1_init ∈ TB := TB_of (tb_1 (List.mem_of_getElem? (i := 113) rfl)) rfl
theorem wim_X1_init : Cond.instanceMethod yX1_init ∈ TB := TB_of (tb_1 (List.mem_of_getElem? (i := 114) rfl)) rfl
theorem wcd_X1_init : Cond.code yX1_init cX1_init 2 none ∈ TB := TB_of (tb_1 (List.mem_of_getElem? (i := 115) rfl)) rfl
theorem wml_RX1_3 : Cond.methodLink RX1 3 objectInit ∈ TB := TB_of (tb_1 (List.mem_of_getElem? (i := 116) rfl)) rfl
theorem wcl_RX1_9 : Cond.classLink RX1 9 RX0 ∈ TB := TB_of (tb_1 (List.mem_of_getElem? (i := 117) rfl)) rfl
theorem wml_RX1_17 : Cond.methodLink RX1 17 yX0_init ∈ TB := TB_of (tb_1 (List.mem_of_getElem? (i := 119) rfl)) rfl
theorem wfl_RX1_11 : Cond.fieldLink RX1 11 "RoofOrdinances$History" "states" "[LRoofOrdinances$City;" ∈ TB := TB_of (tb_1 (List.mem_of_getElem? (i := 120) rfl)) rfl
theorem wfl_RX1_22 : Cond.fieldLink RX1 22 "RoofOrdinances$History" "size" "I" ∈ TB := TB_of (tb_1 (List.mem_of_getElem? (i := 121) rfl)) rfl
theorem wfl_RX6_248 : Cond.fieldLink RX6 248 "RoofOrdinances$History" "size" "I" ∈ TB := TB_of (tb_1 (List.mem_of_getElem? (i := 122) rfl)) rfl
theorem wla_RX1_states : Cond.laysFinal RX1 "RoofOrdinances$History" "states" "[LRoofOrdinances$City;" ∈ TB := TB_of (tb_1 (List.mem_of_getElem? (i := 123) rfl)) rfl
theorem wla_RX1_size : Cond.lays RX1 "RoofOrdinances$History" "size" "I" ∈ TB := TB_of (tb_1 (List.mem_of_getElem? (i := 125) rfl)) rfl
theorem wcl_RX6_29 : Cond.classLink RX6 29 RX5 ∈ TB := TB_of (tb_1 (List.mem_of_getElem? (i := 128) rfl)) rfl
theorem wis_RX5 : Cond.instantiable RX5 2 ∈ TB := TB_of (tb_1 (List.mem_of_getElem? (i := 129) rfl)) rfl
theorem wim_X5_init : Cond.instanceMethod yX5_init ∈ TB := TB_of (tb_1 (List.mem_of_getElem? (i := 131) rfl)) rfl
theorem wcd_X5_init : Cond.code yX5_init cX5_init 1 none ∈ TB := TB_of (tb_1 (List.mem_of_getElem? (i := 132) rfl)) rfl
theorem wml_RX5_3 : Cond.methodLink RX5 3 objectInit ∈ TB := TB_of (tb_1 (List.mem_of_getElem? (i := 133) rfl)) rfl
theorem wfl_RX5_9 : Cond.fieldLink RX5 9 "RoofOrdinances$Ways" "groups" "[I" ∈ TB := TB_of (tb_1 (List.mem_of_getElem? (i := 134) rfl)) rfl
theorem wfl_RX5_15 : Cond.fieldLink RX5 15 "RoofOrdinances$Ways" "strengths" "[I" ∈ TB := TB_of (tb_1 (List.mem_of_getElem? (i := 135) rfl)) rfl
theorem wla_RX5_groups : Cond.laysFinal RX5 "RoofOrdinances$Ways" "groups" "[I" ∈ TB := TB_of (tb_1 (List.mem_of_getElem? (i := 136) rfl)) rfl
theorem wla_RX5_strengths : Cond.laysFinal RX5 "RoofOrdinances$Ways" "strengths" "[I" ∈ TB := TB_of (tb_1 (List.mem_of_getElem? (i := 138) rfl)) rfl
theorem wcl_RX6_36 : Cond.classLink RX6 36 RX3 ∈ TB := TB_of (tb_1 (List.mem_of_getElem? (i := 141) rfl)) rfl
theorem wis_RX3 : Cond.instantiable RX3 2 ∈ TB := TB_of (tb_1 (List.mem_of_getElem? (i := 142) rfl)) rfl
theorem wim_X3_init : Cond.instanceMethod yX3_init ∈ TB := TB_of (tb_1 (List.mem_of_getElem? (i := 144) rfl)) rfl
theorem wcd_X3_init : Cond.code yX3_init cX3_init 1 none ∈ TB := TB_of (tb_1 (List.mem_of_getElem? (i := 145) rfl)) rfl
theorem wml_RX3_3 : Cond.methodLink RX3 3 objectInit ∈ TB := TB_of (tb_1 (List.mem_of_getElem? (i := 146) rfl)) rfl
theorem wfl_RX3_9 : Cond.fieldLink RX3 9 "RoofOrdinances$Pad" "signs" "[C" ∈ TB := TB_of (tb_1 (List.mem_of_getElem? (i := 147) rfl)) rfl
theorem wfl_RX3_15 : Cond.fieldLink RX3 15 "RoofOrdinances$Pad" "length" "I" ∈ TB := TB_of (tb_1 (List.mem_of_getElem? (i := 148) rfl)) rfl
theorem wfl_RX2_26 : Cond.fieldLink RX2 26 "RoofOrdinances$Pad" "length" "I" ∈ TB := TB_of (tb_1 (List.mem_of_getElem? (i := 149) rfl)) rfl
theorem wfl_RX6_135 : Cond.fieldLink RX6 135 "RoofOrdinances$Pad" "length" "I" ∈ TB := TB_of (tb_1 (List.mem_of_getElem? (i := 150) rfl)) rfl
theorem wla_RX3_signs : Cond.laysFinal RX3 "RoofOrdinances$Pad" "signs" "[C" ∈ TB := TB_of (tb_1 (List.mem_of_getElem? (i := 151) rfl)) rfl
theorem wla_RX3_length : Cond.lays RX3 "RoofOrdinances$Pad" "length" "I" ∈ TB := TB_of (tb_1 (List.mem_of_getElem? (i := 153) rfl)) rfl
theorem wac_char : Cond.arrayClass .char ∈ TB := TB_of (tb_1 (List.mem_of_getElem? (i := 156) rfl)) rfl
theorem wcl_RX6_43 : Cond.classLink RX6 43 RX2 ∈ TB := TB_of (tb_1 (List.mem_of_getElem? (i := 157) rfl)) rfl
theorem wis_RX2 : Cond.instantiable RX2 6 ∈ TB := TB_of (tb_1 (List.mem_of_getElem? (i := 158) rfl)) rfl
theorem wml_RX6_45 : Cond.methodLink RX6 45 yX2_init ∈ TB := TB_of (tb_1 (List.mem_of_getElem? (i := 159) rfl)) rfl
theorem wim_X2_init : Cond.instanceMethod yX2_init ∈ TB := TB_of (tb_1 (List.mem_of_getElem? (i := 160) rfl)) rfl
theorem wcd_X2_init : Cond.code yX2_init cX2_init 2 none ∈ TB := TB_of (tb_1 (List.mem_of_getElem? (i := 161) rfl)) rfl
theorem wml_RX2_3 : Cond.methodLink RX2 3 objectInit ∈ TB := TB_of (tb_1 (List.mem_of_getElem? (i := 162) rfl)) rfl
theorem wfl_RX2_9 : Cond.fieldLink RX2 9 "RoofOrdinances$OrderReader" "text" "LRoofOrdinances$Pad;" ∈ TB := TB_of (tb_1 (List.mem_of_getElem? (i := 163) rfl)) rfl
theorem wfl_RX2_15 : Cond.fieldLink RX2 15 "RoofOrdinances$OrderReader" "position" "I" ∈ TB := TB_of (tb_1 (List.mem_of_getElem? (i := 164) rfl)) rfl
theorem wfl_RX2_35 : Cond.fieldLink RX2 35 "RoofOrdinances$OrderReader" "start" "I" ∈ TB := TB_of (tb_1 (List.mem_of_getElem? (i := 165) rfl)) rfl
theorem wfl_RX6_276 : Cond.fieldLink RX6 276 "RoofOrdinances$OrderReader" "start" "I" ∈ TB := TB_of (tb_1 (List.mem_of_getElem? (i := 166) rfl)) rfl
theorem wfl_RX2_42 : Cond.fieldLink RX2 42 "RoofOrdinances$OrderReader" "letter" "C" ∈ TB := TB_of (tb_1 (List.mem_of_getElem? (i := 167) rfl)) rfl
theorem wfl_RX6_279 : Cond.fieldLink RX6 279 "RoofOrdinances$OrderReader" "letter" "C" ∈ TB := TB_of (tb_1 (List.mem_of_getElem? (i := 168) rfl)) rfl
theorem wfl_RX2_57 : Cond.fieldLink RX2 57 "RoofOrdinances$OrderReader" "orderOwner" "I" ∈ TB := TB_of (tb_1 (List.mem_of_getElem? (i := 169) rfl)) rfl
theorem wfl_RX6_283 : Cond.fieldLink RX6 283 "RoofOrdinances$OrderReader" "orderOwner" "I" ∈ TB := TB_of (tb_1 (List.mem_of_getElem? (i := 170) rfl)) rfl
theorem wfl_RX2_68 : Cond.fieldLink RX2 68 "RoofOrdinances$OrderReader" "orderNumber" "I" ∈ TB := TB_of (tb_1 (List.mem_of_getElem? (i := 171) rfl)) rfl
theorem wfl_RX6_286 : Cond.fieldLink RX6 286 "RoofOrdinances$OrderReader" "orderNumber" "I" ∈ TB := TB_of (tb_1 (List.mem_of_getElem? (i := 172) rfl)) rfl
theorem wla_RX2_text : Cond.laysFinal RX2 "RoofOrdinances$OrderReader" "text" "LRoofOrdinances$Pad;" ∈ TB := TB_of (tb_1 (List.mem_of_getElem? (i := 173) rfl)) rfl
theorem wla_RX2_position : Cond.lays RX2 "RoofOrdinances$OrderReader" "position" "I" ∈ TB := TB_of (tb_1 (List.mem_of_getElem? (i := 175) rfl)) rfl
theorem wla_RX2_start : Cond.lays RX2 "RoofOrdinances$OrderReader" "start" "I" ∈ TB := TB_of (tb_1 (List.mem_of_getElem? (i := 177) rfl)) rfl
theorem wla_RX2_letter : Cond.lays RX2 "RoofOrdinances$OrderReader" "letter" "C" ∈ TB := TB_of (tb_1 (List.mem_of_getElem? (i := 179) rfl)) rfl
theorem wla_RX2_orderOwner : Cond.lays RX2 "RoofOrdinances$OrderReader" "orderOwner" "I" ∈ TB := TB_of (tb_1 (List.mem_of_getElem? (i := 181) rfl)) rfl
theorem wla_RX2_orderNumber : Cond.lays RX2 "RoofOrdinances$OrderReader" "orderNumber" "I" ∈ TB := TB_of (tb_1 (List.mem_of_getElem? (i := 183) rfl)) rfl
theorem wfl_RX6_10 : Cond.fieldLink RX6 10 "RoofOrdinances" "city" "LRoofOrdinances$City;" ∈ TB := TB_of (tb_1 (List.mem_of_getElem? (i := 186) rfl)) rfl
theorem wfl_RX6_16 : Cond.fieldLink RX6 16 "RoofOrdinances" "trial" "LRoofOrdinances$City;" ∈ TB := TB_of (tb_1 (List.mem_of_getElem? (i := 187) rfl)) rfl
theorem wfl_RX6_19 : Cond.fieldLink RX6 19 "RoofOrdinances" "snapshot" "LRoofOrdinances$City;" ∈ TB := TB_of (tb_1 (List.mem_of_getElem? (i := 188) rfl)) rfl
theorem wfl_RX6_273 : Cond.fieldLink RX6 273 "RoofOrdinances" "snapshotTaken" "Z" ∈ TB := TB_of (tb_1 (List.mem_of_getElem? (i := 189) rfl)) rfl
theorem wfl_RX6_25 : Cond.fieldLink RX6 25 "RoofOrdinances" "history" "LRoofOrdinances$History;" ∈ TB := TB_of (tb_1 (List.mem_of_getElem? (i := 190) rfl)) rfl
theorem wfl_RX6_32 : Cond.fieldLink RX6 32 "RoofOrdinances" "ways" "LRoofOrdinances$Ways;" ∈ TB := TB_of (tb_1 (List.mem_of_getElem? (i := 191) rfl)) rfl
theorem wfl_RX6_39 : Cond.fieldLink RX6 39 "RoofOrdinances" "pad" "LRoofOrdinances$Pad;" ∈ TB := TB_of (tb_1 (List.mem_of_getElem? (i := 192) rfl)) rfl
theorem wfl_RX6_48 : Cond.fieldLink RX6 48 "RoofOrdinances" "reader" "LRoofOrdinances$OrderReader;" ∈ TB := TB_of (tb_1 (List.mem_of_getElem? (i := 193) rfl)) rfl
theorem wfl_RX6_145 : Cond.fieldLink RX6 145 "RoofOrdinances" "stopped" "Z" ∈ TB := TB_of (tb_1 (List.mem_of_getElem? (i := 194) rfl)) rfl
theorem wfl_RX6_162 : Cond.fieldLink RX6 162 "RoofOrdinances" "stopCause" "I" ∈ TB := TB_of (tb_1 (List.mem_of_getElem? (i := 195) rfl)) rfl
theorem wfl_RX6_165 : Cond.fieldLink RX6 165 "RoofOrdinances" "stopNumber" "I" ∈ TB := TB_of (tb_1 (List.mem_of_getElem? (i := 196) rfl)) rfl
theorem wfl_RX6_168 : Cond.fieldLink RX6 168 "RoofOrdinances" "stopPosition" "I" ∈ TB := TB_of (tb_1 (List.mem_of_getElem? (i := 197) rfl)) rfl
theorem wla_RX6_city : Cond.laysFinal RX6 "RoofOrdinances" "city" "LRoofOrdinances$City;" ∈ TB := TB_of (tb_1 (List.mem_of_getElem? (i := 198) rfl)) rfl
theorem wla_RX6_trial : Cond.laysFinal RX6 "RoofOrdinances" "trial" "LRoofOrdinances$City;" ∈ TB := TB_of (tb_1 (List.mem_of_getElem? (i := 200) rfl)) rfl
theorem wla_RX6_snapshot : Cond.laysFinal RX6 "RoofOrdinances" "snapshot" "LRoofOrdinances$City;" ∈ TB := TB_of (tb_1 (List.mem_of_getElem? (i := 202) rfl)) rfl
theorem wla_RX6_snapshotTaken : Cond.lays RX6 "RoofOrdinances" "snapshotTaken" "Z" ∈ TB := TB_of (tb_1 (List.mem_of_getElem? (i := 204) rfl)) rfl
theorem wla_RX6_history : Cond.laysFinal RX6 "RoofOrdinances" "history" "LRoofOrdinances$History;" ∈ TB := TB_of (tb_1 (List.mem_of_getElem? (i := 206) rfl)) rfl
theorem wla_RX6_ways : Cond.laysFinal RX6 "RoofOrdinances" "ways" "LRoofOrdinances$Ways;" ∈ TB := TB_of (tb_1 (List.mem_of_getElem? (i := 208) rfl)) rfl
theorem wla_RX6_pad : Cond.laysFinal RX6 "RoofOrdinances" "pad" "LRoofOrdinances$Pad;" ∈ TB := TB_of (tb_1 (List.mem_of_getElem? (i := 210) rfl)) rfl
theorem wla_RX6_reader : Cond.laysFinal RX6 "RoofOrdinances" "reader" "LRoofOrdinances$OrderReader;" ∈ TB := TB_of (tb_1 (List.mem_of_getElem? (i := 212) rfl)) rfl
theorem wla_RX6_stopped : Cond.lays RX6 "RoofOrdinances" "stopped" "Z" ∈ TB := TB_of (tb_1 (List.mem_of_getElem? (i := 214) rfl)) rfl
theorem wla_RX6_stopCause : Cond.lays RX6 "RoofOrdinances" "stopCause" "I" ∈ TB := TB_of (tb_1 (List.mem_of_getElem? (i := 216) rfl)) rfl
theorem wla_RX6_stopNumber : Cond.lays RX6 "RoofOrdinances" "stopNumber" "I" ∈ TB := TB_of (tb_1 (List.mem_of_getElem? (i := 218) rfl)) rfl
theorem wla_RX6_stopPosition : Cond.lays RX6 "RoofOrdinances" "stopPosition" "I" ∈ TB := TB_of (tb_1 (List.mem_of_getElem? (i := 220) rfl)) rfl
theorem wml_RL_13 : Cond.methodLink RL 13 yX6_bears ∈ TB := TB_of (tb_1 (List.mem_of_getElem? (i := 223) rfl)) rfl
theorem wim_X6_bears : Cond.instanceMethod yX6_bears ∈ TB := TB_of (tb_1 (List.mem_of_getElem? (i := 224) rfl)) rfl
theorem wse_X6_bears : Cond.selects RX6 yX6_bears yX6_bears ∈ TB := TB_of (tb_1 (List.mem_of_getElem? (i := 225) rfl)) rfl
theorem wcd_X6_bears : Cond.code yX6_bears cX6_bears 4 (some .int) ∈ TB := TB_of (tb_1 (List.mem_of_getElem? (i := 226) rfl)) rfl
theorem wml_RX6_52 : Cond.methodLink RX6 52 yX4_isGangway ∈ TB := TB_of (tb_1 (List.mem_of_getElem? (i := 227) rfl)) rfl
theorem wml_RX6_58 : Cond.methodLink RX6 58 yX6_isWithin ∈ TB := TB_of (tb_1 (List.mem_of_getElem? (i := 228) rfl)) rfl
theorem wml_RX6_62 : Cond.methodLink RX6 62 yX1_push ∈ TB := TB_of (tb_1 (List.mem_of_getElem? (i := 229) rfl)) rfl
theorem wim_X1_push : Cond.instanceMethod yX1_push ∈ TB := TB_of (tb_1 (List.mem_of_getElem? (i := 230) rfl)) rfl
theorem wse_X1_push : Cond.selects RX1 yX1_push yX1_push ∈ TB := TB_of (tb_1 (List.mem_of_getElem? (i := 231) rfl)) rfl
theorem wcd_X1_push : Cond.code yX1_push cX1_push 4 none ∈ TB := TB_of (tb_1 (List.mem_of_getElem? (i := 232) rfl)) rfl
theorem wml_RX1_18 : Cond.methodLink RX1 18 yX0_copyFrom ∈ TB := TB_of (tb_1 (List.mem_of_getElem? (i := 233) rfl)) rfl
theorem wim_X0_copyFrom : Cond.instanceMethod yX0_copyFrom ∈ TB := TB_of (tb_1 (List.mem_of_getElem? (i := 234) rfl)) rfl
theorem wse_X0_copyFrom : Cond.selects RX0 yX0_copyFrom yX0_copyFrom ∈ TB := TB_of (tb_1 (List.mem_of_getElem? (i := 235) rfl)) rfl
theorem wcd_X0_copyFrom : Cond.code yX0_copyFrom cX0_copyFrom 2 none ∈ TB := TB_of (tb_1 (List.mem_of_getElem? (i := 236) rfl)) rfl
theorem wml_RX0_59 : Cond.methodLink RX0 59 arraycopyName ∈ TB := TB_of (tb_1 (List.mem_of_getElem? (i := 237) rfl)) rfl
theorem wst_copy : Cond.static arraycopyName ∈ TB := TB_of (tb_1 (List.mem_of_getElem? (i := 238) rfl)) rfl
theorem wnat_copy : Cond.native arraycopyName ∈ TB := TB_of (tb_1 (List.mem_of_getElem? (i := 239) rfl)) rfl
theorem wml_RX1_26 : Cond.methodLink RX1 26 yJ9_min_7cf53 ∈ TB := TB_of (tb_2 (List.mem_of_getElem? (i := 0) rfl)) rfl
theorem wst_J9_min_7cf53 : Cond.static yJ9_min_7cf53 ∈ TB := TB_of (tb_2 (List.mem_of_getElem? (i := 1) rfl)) rfl
theorem wcd_J9_min_7cf53 : Cond.code yJ9_min_7cf53 cJ9_min_7cf53 2 (some .int) ∈ TB := TB_of (tb_2 (List.mem_of_getElem? (i := 2) rfl)) rfl
theorem wml_RX6_70 : Cond.methodLink RX6 70 yX0_letBear ∈ TB := TB_of (tb_2 (List.mem_of_getElem? (i := 3) rfl)) rfl
theorem wim_X0_letBear : Cond.instanceMethod yX0_letBear ∈ TB := TB_of (tb_2 (List.mem_of_getElem? (i := 4) rfl)) rfl
theorem wse_X0_letBear : Cond.selects RX0 yX0_letBear yX0_letBear ∈ TB := TB_of (tb_2 (List.mem_of_getElem? (i := 5) rfl)) rfl
theorem wcd_X0_letBear : Cond.code yX0_letBear cX0_letBear 3 none ∈ TB := TB_of (tb_2 (List.mem_of_getElem? (i := 6) rfl)) rfl
theorem wml_RX0_89 : Cond.methodLink RX0 89 yX0_hasLine ∈ TB := TB_of (tb_2 (List.mem_of_getElem? (i := 7) rfl)) rfl
theorem wim_X0_hasLine : Cond.instanceMethod yX0_hasLine ∈ TB := TB_of (tb_2 (List.mem_of_getElem? (i := 8) rfl)) rfl
theorem wse_X0_hasLine : Cond.selects RX0 yX0_hasLine yX0_hasLine ∈ TB := TB_of (tb_2 (List.mem_of_getElem? (i := 9) rfl)) rfl
theorem wcd_X0_hasLine : Cond.code yX0_hasLine cX0_hasLine 2 (some .boolean) ∈ TB := TB_of (tb_2 (List.mem_of_getElem? (i := 10) rfl)) rfl
theorem wml_RL_18 : Cond.methodLink RL 18 yX6_wind ∈ TB := TB_of (tb_2 (List.mem_of_getElem? (i := 11) rfl)) rfl
theorem wim_X6_wind : Cond.instanceMethod yX6_wind ∈ TB := TB_of (tb_2 (List.mem_of_getElem? (i := 12) rfl)) rfl
theorem wse_X6_wind : Cond.selects RX6 yX6_wind yX6_wind ∈ TB := TB_of (tb_2 (List.mem_of_getElem? (i := 13) rfl)) rfl
theorem wcd_X6_wind : Cond.code yX6_wind cX6_wind 3 (some .int) ∈ TB := TB_of (tb_2 (List.mem_of_getElem? (i := 14) rfl)) rfl
theorem wml_RL_23 : Cond.methodLink RL 23 yX6_chimney ∈ TB := TB_of (tb_2 (List.mem_of_getElem? (i := 15) rfl)) rfl
theorem wim_X6_chimney : Cond.instanceMethod yX6_chimney ∈ TB := TB_of (tb_2 (List.mem_of_getElem? (i := 16) rfl)) rfl
theorem wse_X6_chimney : Cond.selects RX6 yX6_chimney yX6_chimney ∈ TB := TB_of (tb_2 (List.mem_of_getElem? (i := 17) rfl)) rfl
theorem wcd_X6_chimney : Cond.code yX6_chimney cX6_chimney 2 (some .int) ∈ TB := TB_of (tb_2 (List.mem_of_getElem? (i := 18) rfl)) rfl
theorem wml_RX6_78 : Cond.methodLink RX6 78 yX6_isRoof ∈ TB := TB_of (tb_2 (List.mem_of_getElem? (i := 19) rfl)) rfl
theorem wst_X6_isRoof : Cond.static yX6_isRoof ∈ TB := TB_of (tb_2 (List.mem_of_getElem? (i := 20) rfl)) rfl
theorem wcd_X6_isRoof : Cond.code yX6_isRoof cX6_isRoof 1 (some .boolean) ∈ TB := TB_of (tb_2 (List.mem_of_getElem? (i := 21) rfl)) rfl
theorem wml_RX6_81 : Cond.methodLink RX6 81 yX0_toggleChimney ∈ TB := TB_of (tb_2 (List.mem_of_getElem? (i := 22) rfl)) rfl
theorem wim_X0_toggleChimney : Cond.instanceMethod yX0_toggleChimney ∈ TB := TB_of (tb_2 (List.mem_of_getElem? (i := 23) rfl)) rfl
theorem wse_X0_toggleChimney : Cond.selects RX0 yX0_toggleChimney yX0_toggleChimney ∈ TB := TB_of (tb_2 (List.mem_of_getElem? (i := 24) rfl)) rfl
theorem wcd_X0_toggleChimney : Cond.code yX0_toggleChimney cX0_toggleChimney 2 none ∈ TB := TB_of (tb_2 (List.mem_of_getElem? (i := 25) rfl)) rfl
theorem wml_RX6_85 : Cond.methodLink RX6 85 yX0_smokeBlown ∈ TB := TB_of (tb_2 (List.mem_of_getElem? (i := 26) rfl)) rfl
theorem wim_X0_smokeBlown : Cond.instanceMethod yX0_smokeBlown ∈ TB := TB_of (tb_2 (List.mem_of_getElem? (i := 27) rfl)) rfl
theorem wse_X0_smokeBlown : Cond.selects RX0 yX0_smokeBlown yX0_smokeBlown ∈ TB := TB_of (tb_2 (List.mem_of_getElem? (i := 28) rfl)) rfl
theorem wcd_X0_smokeBlown : Cond.code yX0_smokeBlown cX0_smokeBlown 4 (some .int) ∈ TB := TB_of (tb_2 (List.mem_of_getElem? (i := 29) rfl)) rfl
theorem wst_X6_isIn : Cond.static yX6_isIn ∈ TB := TB_of (tb_2 (List.mem_of_getElem? (i := 31) rfl)) rfl
theorem wcd_X6_isIn : Cond.code yX6_isIn cX6_isIn 2 (some .boolean) ∈ TB := TB_of (tb_2 (List.mem_of_getElem? (i := 32) rfl)) rfl
theorem wml_RX0_96 : Cond.methodLink RX0 96 yX4_roofAndNext ∈ TB := TB_of (tb_2 (List.mem_of_getElem? (i := 33) rfl)) rfl
theorem wst_X4_roofAndNext : Cond.static yX4_roofAndNext ∈ TB := TB_of (tb_2 (List.mem_of_getElem? (i := 34) rfl)) rfl
theorem wcd_X4_roofAndNext : Cond.code yX4_roofAndNext cX4_roofAndNext 6 (some .int) ∈ TB := TB_of (tb_2 (List.mem_of_getElem? (i := 35) rfl)) rfl
theorem wml_RX4_33 : Cond.methodLink RX4 33 yX4_nextRoof ∈ TB := TB_of (tb_2 (List.mem_of_getElem? (i := 36) rfl)) rfl
theorem wst_X4_nextRoof : Cond.static yX4_nextRoof ∈ TB := TB_of (tb_2 (List.mem_of_getElem? (i := 37) rfl)) rfl
theorem wcd_X4_nextRoof : Cond.code yX4_nextRoof cX4_nextRoof 2 (some .int) ∈ TB := TB_of (tb_2 (List.mem_of_getElem? (i := 38) rfl)) rfl
theorem wml_RX6_89 : Cond.methodLink RX6 89 yJ6_bitCount_0f7a4 ∈ TB := TB_of (tb_2 (List.mem_of_getElem? (i := 39) rfl)) rfl
theorem wst_J6_bitCount_0f7a4 : Cond.static yJ6_bitCount_0f7a4 ∈ TB := TB_of (tb_2 (List.mem_of_getElem? (i := 40) rfl)) rfl
theorem wcd_J6_bitCount_0f7a4 : Cond.code yJ6_bitCount_0f7a4 cJ6_bitCount_0f7a4 1 (some .int) ∈ TB := TB_of (tb_2 (List.mem_of_getElem? (i := 41) rfl)) rfl
theorem wco_RJ6_265 : Cond.constant RJ6 265 1431655765 ∈ TB := TB_of (tb_2 (List.mem_of_getElem? (i := 42) rfl)) rfl
theorem wco_RJ6_266 : Cond.constant RJ6 266 858993459 ∈ TB := TB_of (tb_2 (List.mem_of_getElem? (i := 43) rfl)) rfl
theorem wco_RJ6_267 : Cond.constant RJ6 267 252645135 ∈ TB := TB_of (tb_2 (List.mem_of_getElem? (i := 44) rfl)) rfl
theorem wml_RL_27 : Cond.methodLink RL 27 yX6_coop ∈ TB := TB_of (tb_2 (List.mem_of_getElem? (i := 45) rfl)) rfl
theorem wim_X6_coop : Cond.instanceMethod yX6_coop ∈ TB := TB_of (tb_2 (List.mem_of_getElem? (i := 46) rfl)) rfl
theorem wse_X6_coop : Cond.selects RX6 yX6_coop yX6_coop ∈ TB := TB_of (tb_2 (List.mem_of_getElem? (i := 47) rfl)) rfl
theorem wcd_X6_coop : Cond.code yX6_coop cX6_coop 2 (some .int) ∈ TB := TB_of (tb_2 (List.mem_of_getElem? (i := 48) rfl)) rfl
theorem wml_RL_31 : Cond.methodLink RL 31 yX6_owner ∈ TB := TB_of (tb_2 (List.mem_of_getElem? (i := 49) rfl)) rfl
theorem wim_X6_owner : Cond.instanceMethod yX6_owner ∈ TB := TB_of (tb_2 (List.mem_of_getElem? (i := 50) rfl)) rfl
theorem wse_X6_owner : Cond.selects RX6 yX6_owner yX6_owner ∈ TB := TB_of (tb_2 (List.mem_of_getElem? (i := 51) rfl)) rfl
theorem wcd_X6_owner : Cond.code yX6_owner cX6_owner 6 (some .int) ∈ TB := TB_of (tb_2 (List.mem_of_getElem? (i := 52) rfl)) rfl
theorem wml_RX6_97 : Cond.methodLink RX6 97 yX6_isOwner ∈ TB := TB_of (tb_2 (List.mem_of_getElem? (i := 53) rfl)) rfl
theorem wst_X6_isOwner : Cond.static yX6_isOwner ∈ TB := TB_of (tb_2 (List.mem_of_getElem? (i := 54) rfl)) rfl
theorem wcd_X6_isOwner : Cond.code yX6_isOwner cX6_isOwner 1 (some .boolean) ∈ TB := TB_of (tb_2 (List.mem_of_getElem? (i := 55) rfl)) rfl
theorem wco_RX6_100 : Cond.constant RX6 100 65535 ∈ TB := TB_of (tb_2 (List.mem_of_getElem? (i := 56) rfl)) rfl
theorem wml_RX6_107 : Cond.methodLink RX6 107 yX0_setTruce ∈ TB := TB_of (tb_2 (List.mem_of_getElem? (i := 57) rfl)) rfl
theorem wim_X0_setTruce : Cond.instanceMethod yX0_setTruce ∈ TB := TB_of (tb_2 (List.mem_of_getElem? (i := 58) rfl)) rfl
theorem wse_X0_setTruce : Cond.selects RX0 yX0_setTruce yX0_setTruce ∈ TB := TB_of (tb_2 (List.mem_of_getElem? (i := 59) rfl)) rfl
theorem wcd_X0_setTruce : Cond.code yX0_setTruce cX0_setTruce 3 none ∈ TB := TB_of (tb_2 (List.mem_of_getElem? (i := 60) rfl)) rfl
theorem wml_RL_36 : Cond.methodLink RL 36 yX6_reach ∈ TB := TB_of (tb_2 (List.mem_of_getElem? (i := 61) rfl)) rfl
theorem wim_X6_reach : Cond.instanceMethod yX6_reach ∈ TB := TB_of (tb_2 (List.mem_of_getElem? (i := 62) rfl)) rfl
theorem wse_X6_reach : Cond.selects RX6 yX6_reach yX6_reach ∈ TB := TB_of (tb_2 (List.mem_of_getElem? (i := 63) rfl)) rfl
theorem wcd_X6_reach : Cond.code yX6_reach cX6_reach 3 (some .int) ∈ TB := TB_of (tb_2 (List.mem_of_getElem? (i := 64) rfl)) rfl
theorem wml_RL_40 : Cond.methodLink RL 40 yX6_hang ∈ TB := TB_of (tb_2 (List.mem_of_getElem? (i := 65) rfl)) rfl
theorem wim_X6_hang : Cond.instanceMethod yX6_hang ∈ TB := TB_of (tb_2 (List.mem_of_getElem? (i := 66) rfl)) rfl
theorem wse_X6_hang : Cond.selects RX6 yX6_hang yX6_hang ∈ TB := TB_of (tb_2 (List.mem_of_getElem? (i := 67) rfl)) rfl
theorem wcd_X6_hang : Cond.code yX6_hang cX6_hang 3 (some .int) ∈ TB := TB_of (tb_2 (List.mem_of_getElem? (i := 68) rfl)) rfl
theorem wml_RX6_114 : Cond.methodLink RX6 114 yX0_hangLine ∈ TB := TB_of (tb_2 (List.mem_of_getElem? (i := 69) rfl)) rfl
theorem wim_X0_hangLine : Cond.instanceMethod yX0_hangLine ∈ TB := TB_of (tb_2 (List.mem_of_getElem? (i := 70) rfl)) rfl
theorem wse_X0_hangLine : Cond.selects RX0 yX0_hangLine yX0_hangLine ∈ TB := TB_of (tb_2 (List.mem_of_getElem? (i := 71) rfl)) rfl
theorem wcd_X0_hangLine : Cond.code yX0_hangLine cX0_hangLine 4 (some .int) ∈ TB := TB_of (tb_2 (List.mem_of_getElem? (i := 72) rfl)) rfl
theorem wml_RX0_122 : Cond.methodLink RX0 122 yX0_reasonNotToHang ∈ TB := TB_of (tb_2 (List.mem_of_getElem? (i := 73) rfl)) rfl
theorem wim_X0_reasonNotToHang : Cond.instanceMethod yX0_reasonNotToHang ∈ TB := TB_of (tb_2 (List.mem_of_getElem? (i := 74) rfl)) rfl
theorem wse_X0_reasonNotToHang : Cond.selects RX0 yX0_reasonNotToHang yX0_reasonNotToHang ∈ TB := TB_of (tb_2 (List.mem_of_getElem? (i := 75) rfl)) rfl
theorem wcd_X0_reasonNotToHang : Cond.code yX0_reasonNotToHang cX0_reasonNotToHang 4 (some .int) ∈ TB := TB_of (tb_2 (List.mem_of_getElem? (i := 76) rfl)) rfl
theorem wml_RX0_104 : Cond.methodLink RX0 104 yX4_roofsOf ∈ TB := TB_of (tb_2 (List.mem_of_getElem? (i := 77) rfl)) rfl
theorem wst_X4_roofsOf : Cond.static yX4_roofsOf ∈ TB := TB_of (tb_2 (List.mem_of_getElem? (i := 78) rfl)) rfl
theorem wcd_X4_roofsOf : Cond.code yX4_roofsOf cX4_roofsOf 1 (some .int) ∈ TB := TB_of (tb_2 (List.mem_of_getElem? (i := 79) rfl)) rfl
theorem wml_RX4_13 : Cond.methodLink RX4 13 yX4_lesserRoof ∈ TB := TB_of (tb_2 (List.mem_of_getElem? (i := 80) rfl)) rfl
theorem wst_X4_lesserRoof : Cond.static yX4_lesserRoof ∈ TB := TB_of (tb_2 (List.mem_of_getElem? (i := 81) rfl)) rfl
theorem wcd_X4_lesserRoof : Cond.code yX4_lesserRoof cX4_lesserRoof 1 (some .int) ∈ TB := TB_of (tb_2 (List.mem_of_getElem? (i := 82) rfl)) rfl
theorem wml_RX4_19 : Cond.methodLink RX4 19 yX4_greaterRoof ∈ TB := TB_of (tb_2 (List.mem_of_getElem? (i := 83) rfl)) rfl
theorem wst_X4_greaterRoof : Cond.static yX4_greaterRoof ∈ TB := TB_of (tb_2 (List.mem_of_getElem? (i := 84) rfl)) rfl
theorem wcd_X4_greaterRoof : Cond.code yX4_greaterRoof cX4_greaterRoof 1 (some .int) ∈ TB := TB_of (tb_2 (List.mem_of_getElem? (i := 85) rfl)) rfl
theorem wml_RX0_116 : Cond.methodLink RX0 116 yX0_isThere ∈ TB := TB_of (tb_2 (List.mem_of_getElem? (i := 86) rfl)) rfl
theorem wim_X0_isThere : Cond.instanceMethod yX0_isThere ∈ TB := TB_of (tb_2 (List.mem_of_getElem? (i := 87) rfl)) rfl
theorem wse_X0_isThere : Cond.selects RX0 yX0_isThere yX0_isThere ∈ TB := TB_of (tb_2 (List.mem_of_getElem? (i := 88) rfl)) rfl
theorem wcd_X0_isThere : Cond.code yX0_isThere cX0_isThere 2 (some .boolean) ∈ TB := TB_of (tb_2 (List.mem_of_getElem? (i := 89) rfl)) rfl
theorem wml_RX0_100 : Cond.methodLink RX0 100 yX0_smokeBlown ∈ TB := TB_of (tb_2 (List.mem_of_getElem? (i := 90) rfl)) rfl
theorem wml_RX0_119 : Cond.methodLink RX0 119 yX0_isNearCoop ∈ TB := TB_of (tb_2 (List.mem_of_getElem? (i := 91) rfl)) rfl
theorem wim_X0_isNearCoop : Cond.instanceMethod yX0_isNearCoop ∈ TB := TB_of (tb_2 (List.mem_of_getElem? (i := 92) rfl)) rfl
theorem wse_X0_isNearCoop : Cond.selects RX0 yX0_isNearCoop yX0_isNearCoop ∈ TB := TB_of (tb_2 (List.mem_of_getElem? (i := 93) rfl)) rfl
theorem wcd_X0_isNearCoop : Cond.code yX0_isNearCoop cX0_isNearCoop 3 (some .boolean) ∈ TB := TB_of (tb_2 (List.mem_of_getElem? (i := 94) rfl)) rfl
theorem wml_RX0_107 : Cond.methodLink RX0 107 yX4_lesserRoof ∈ TB := TB_of (tb_2 (List.mem_of_getElem? (i := 95) rfl)) rfl
theorem wml_RX0_110 : Cond.methodLink RX0 110 yX4_roofAndNeighbours ∈ TB := TB_of (tb_2 (List.mem_of_getElem? (i := 96) rfl)) rfl
theorem wst_X4_roofAndNeighbours : Cond.static yX4_roofAndNeighbours ∈ TB := TB_of (tb_2 (List.mem_of_getElem? (i := 97) rfl)) rfl
theorem wcd_X4_roofAndNeighbours : Cond.code yX4_roofAndNeighbours cX4_roofAndNeighbours 4 (some .int) ∈ TB := TB_of (tb_2 (List.mem_of_getElem? (i := 98) rfl)) rfl
theorem wml_RX0_113 : Cond.methodLink RX0 113 yX4_greaterRoof ∈ TB := TB_of (tb_2 (List.mem_of_getElem? (i := 99) rfl)) rfl
theorem wml_RX0_126 : Cond.methodLink RX0 126 yX0_allLines ∈ TB := TB_of (tb_2 (List.mem_of_getElem? (i := 100) rfl)) rfl
theorem wim_X0_allLines : Cond.instanceMethod yX0_allLines ∈ TB := TB_of (tb_2 (List.mem_of_getElem? (i := 101) rfl)) rfl
theorem wse_X0_allLines : Cond.selects RX0 yX0_allLines yX0_allLines ∈ TB := TB_of (tb_2 (List.mem_of_getElem? (i := 102) rfl)) rfl
theorem wcd_X0_allLines : Cond.code yX0_allLines cX0_allLines 3 (some .int) ∈ TB := TB_of (tb_2 (List.mem_of_getElem? (i := 103) rfl)) rfl
theorem wml_RX0_130 : Cond.methodLink RX0 130 yJ6_bitCount_0f7a4 ∈ TB := TB_of (tb_2 (List.mem_of_getElem? (i := 104) rfl)) rfl
theorem wml_RL_44 : Cond.methodLink RL 44 yX6_take ∈ TB := TB_of (tb_2 (List.mem_of_getElem? (i := 105) rfl)) rfl
theorem wim_X6_take : Cond.instanceMethod yX6_take ∈ TB := TB_of (tb_2 (List.mem_of_getElem? (i := 106) rfl)) rfl
theorem wse_X6_take : Cond.selects RX6 yX6_take yX6_take ∈ TB := TB_of (tb_2 (List.mem_of_getElem? (i := 107) rfl)) rfl
theorem wcd_X6_take : Cond.code yX6_take cX6_take 3 (some .int) ∈ TB := TB_of (tb_2 (List.mem_of_getElem? (i := 108) rfl)) rfl
theorem wml_RX6_118 : Cond.methodLink RX6 118 yX0_takeLine ∈ TB := TB_of (tb_2 (List.mem_of_getElem? (i := 109) rfl)) rfl
theorem wim_X0_takeLine : Cond.instanceMethod yX0_takeLine ∈ TB := TB_of (tb_2 (List.mem_of_getElem? (i := 110) rfl)) rfl
theorem wse_X0_takeLine : Cond.selects RX0 yX0_takeLine yX0_takeLine ∈ TB := TB_of (tb_2 (List.mem_of_getElem? (i := 111) rfl)) rfl
theorem wcd_X0_takeLine : Cond.code yX0_takeLine cX0_takeLine 3 (some .int) ∈ TB := TB_of (tb_2 (List.mem_of_getElem? (i := 112) rfl)) rfl
theorem wml_RL_48 : Cond.methodLink RL 48 yX6_walk ∈ TB := TB_of (tb_2 (List.mem_of_getElem? (i := 113) rfl)) rfl
theorem wim_X6_walk : Cond.instanceMethod yX6_walk ∈ TB := TB_of (tb_2 (List.mem_of_getElem? (i := 114) rfl)) rfl
theorem wse_X6_walk : Cond.selects RX6 yX6_walk yX6_walk ∈ TB := TB_of (tb_2 (List.mem_of_getElem? (i := 115) rfl)) rfl
theorem wcd_X6_walk : Cond.code yX6_walk cX6_walk 3 (some .int) ∈ TB := TB_of (tb_2 (List.mem_of_getElem? (i := 116) rfl)) rfl
theorem wml_RX6_121 : Cond.methodLink RX6 121 yX0_standsAt ∈ TB := TB_of (tb_2 (List.mem_of_getElem? (i := 117) rfl)) rfl
theorem wim_X0_standsAt : Cond.instanceMethod yX0_standsAt ∈ TB := TB_of (tb_2 (List.mem_of_getElem? (i := 118) rfl)) rfl
theorem wse_X0_standsAt : Cond.selects RX0 yX0_standsAt yX0_standsAt ∈ TB := TB_of (tb_2 (List.mem_of_getElem? (i := 119) rfl)) rfl
theorem wcd_X0_standsAt : Cond.code yX0_standsAt cX0_standsAt 3 (some .boolean) ∈ TB := TB_of (tb_2 (List.mem_of_getElem? (i := 120) rfl)) rfl
theorem wml_RX6_125 : Cond.methodLink RX6 125 yX0_walkOver ∈ TB := TB_of (tb_2 (List.mem_of_getElem? (i := 121) rfl)) rfl
theorem wim_X0_walkOver : Cond.instanceMethod yX0_walkOver ∈ TB := TB_of (tb_2 (List.mem_of_getElem? (i := 122) rfl)) rfl
theorem wse_X0_walkOver : Cond.selects RX0 yX0_walkOver yX0_walkOver ∈ TB := TB_of (tb_2 (List.mem_of_getElem? (i := 123) rfl)) rfl
theorem wcd_X0_walkOver : Cond.code yX0_walkOver cX0_walkOver 5 (some .int) ∈ TB := TB_of (tb_2 (List.mem_of_getElem? (i := 124) rfl)) rfl
theorem wml_RX0_135 : Cond.methodLink RX0 135 yX4_otherRoof ∈ TB := TB_of (tb_2 (List.mem_of_getElem? (i := 125) rfl)) rfl
theorem wst_X4_otherRoof : Cond.static yX4_otherRoof ∈ TB := TB_of (tb_2 (List.mem_of_getElem? (i := 126) rfl)) rfl
theorem wcd_X4_otherRoof : Cond.code yX4_otherRoof cX4_otherRoof 2 (some .int) ∈ TB := TB_of (tb_2 (List.mem_of_getElem? (i := 127) rfl)) rfl
theorem wml_RX0_138 : Cond.methodLink RX0 138 yX0_reasonNotToWalk ∈ TB := TB_of (tb_2 (List.mem_of_getElem? (i := 128) rfl)) rfl
theorem wim_X0_reasonNotToWalk : Cond.instanceMethod yX0_reasonNotToWalk ∈ TB := TB_of (tb_2 (List.mem_of_getElem? (i := 129) rfl)) rfl
theorem wse_X0_reasonNotToWalk : Cond.selects RX0 yX0_reasonNotToWalk yX0_reasonNotToWalk ∈ TB := TB_of (tb_2 (List.mem_of_getElem? (i := 130) rfl)) rfl
theorem wcd_X0_reasonNotToWalk : Cond.code yX0_reasonNotToWalk cX0_reasonNotToWalk 4 (some .int) ∈ TB := TB_of (tb_2 (List.mem_of_getElem? (i := 131) rfl)) rfl
theorem wml_RL_52 : Cond.methodLink RL 52 yX6_day ∈ TB := TB_of (tb_2 (List.mem_of_getElem? (i := 132) rfl)) rfl
theorem wim_X6_day : Cond.instanceMethod yX6_day ∈ TB := TB_of (tb_2 (List.mem_of_getElem? (i := 133) rfl)) rfl
theorem wse_X6_day : Cond.selects RX6 yX6_day yX6_day ∈ TB := TB_of (tb_2 (List.mem_of_getElem? (i := 134) rfl)) rfl
theorem wcd_X6_day : Cond.code yX6_day cX6_day 1 (some .int) ∈ TB := TB_of (tb_2 (List.mem_of_getElem? (i := 135) rfl)) rfl
theorem wml_RX6_128 : Cond.methodLink RX6 128 yX0_passDay ∈ TB := TB_of (tb_2 (List.mem_of_getElem? (i := 136) rfl)) rfl
theorem wim_X0_passDay : Cond.instanceMethod yX0_passDay ∈ TB := TB_of (tb_2 (List.mem_of_getElem? (i := 137) rfl)) rfl
theorem wse_X0_passDay : Cond.selects RX0 yX0_passDay yX0_passDay ∈ TB := TB_of (tb_2 (List.mem_of_getElem? (i := 138) rfl)) rfl
theorem wcd_X0_passDay : Cond.code yX0_passDay cX0_passDay 3 none ∈ TB := TB_of (tb_2 (List.mem_of_getElem? (i := 139) rfl)) rfl
theorem wml_RX0_141 : Cond.methodLink RX0 141 yX0_soilLine ∈ TB := TB_of (tb_2 (List.mem_of_getElem? (i := 140) rfl)) rfl
theorem wim_X0_soilLine : Cond.instanceMethod yX0_soilLine ∈ TB := TB_of (tb_2 (List.mem_of_getElem? (i := 141) rfl)) rfl
theorem wse_X0_soilLine : Cond.selects RX0 yX0_soilLine yX0_soilLine ∈ TB := TB_of (tb_2 (List.mem_of_getElem? (i := 142) rfl)) rfl
theorem wcd_X0_soilLine : Cond.code yX0_soilLine cX0_soilLine 4 none ∈ TB := TB_of (tb_2 (List.mem_of_getElem? (i := 143) rfl)) rfl
theorem wml_RX6_131 : Cond.methodLink RX6 131 yX0_cleanLines ∈ TB := TB_of (tb_2 (List.mem_of_getElem? (i := 144) rfl)) rfl
theorem wim_X0_cleanLines : Cond.instanceMethod yX0_cleanLines ∈ TB := TB_of (tb_2 (List.mem_of_getElem? (i := 145) rfl)) rfl
theorem wse_X0_cleanLines : Cond.selects RX0 yX0_cleanLines yX0_cleanLines ∈ TB := TB_of (tb_2 (List.mem_of_getElem? (i := 146) rfl)) rfl
theorem wcd_X0_cleanLines : Cond.code yX0_cleanLines cX0_cleanLines 3 (some .int) ∈ TB := TB_of (tb_2 (List.mem_of_getElem? (i := 147) rfl)) rfl
theorem wml_RL_57 : Cond.methodLink RL 57 yX6_append ∈ TB := TB_of (tb_2 (List.mem_of_getElem? (i := 148) rfl)) rfl
theorem wim_X6_append : Cond.instanceMethod yX6_append ∈ TB := TB_of (tb_2 (List.mem_of_getElem? (i := 149) rfl)) rfl
theorem wse_X6_append : Cond.selects RX6 yX6_append yX6_append ∈ TB := TB_of (tb_2 (List.mem_of_getElem? (i := 150) rfl)) rfl
theorem wcd_X6_append : Cond.code yX6_append cX6_append 2 (some .int) ∈ TB := TB_of (tb_2 (List.mem_of_getElem? (i := 151) rfl)) rfl
theorem wml_RX6_138 : Cond.methodLink RX6 138 yX3_add ∈ TB := TB_of (tb_2 (List.mem_of_getElem? (i := 152) rfl)) rfl
theorem wim_X3_add : Cond.instanceMethod yX3_add ∈ TB := TB_of (tb_2 (List.mem_of_getElem? (i := 153) rfl)) rfl
theorem wse_X3_add : Cond.selects RX3 yX3_add yX3_add ∈ TB := TB_of (tb_2 (List.mem_of_getElem? (i := 154) rfl)) rfl
theorem wcd_X3_add : Cond.code yX3_add cX3_add 2 none ∈ TB := TB_of (tb_2 (List.mem_of_getElem? (i := 155) rfl)) rfl
theorem wml_RL_61 : Cond.methodLink RL 61 yX6_clear ∈ TB := TB_of (tb_2 (List.mem_of_getElem? (i := 157) rfl)) rfl
theorem wim_X6_clear : Cond.instanceMethod yX6_clear ∈ TB := TB_of (tb_2 (List.mem_of_getElem? (i := 158) rfl)) rfl
theorem wse_X6_clear : Cond.selects RX6 yX6_clear yX6_clear ∈ TB := TB_of (tb_2 (List.mem_of_getElem? (i := 159) rfl)) rfl
theorem wcd_X6_clear : Cond.code yX6_clear cX6_clear 2 (some .int) ∈ TB := TB_of (tb_2 (List.mem_of_getElem? (i := 160) rfl)) rfl
theorem wml_RL_65 : Cond.methodLink RL 65 yX6_fault ∈ TB := TB_of (tb_2 (List.mem_of_getElem? (i := 161) rfl)) rfl
theorem wim_X6_fault : Cond.instanceMethod yX6_fault ∈ TB := TB_of (tb_2 (List.mem_of_getElem? (i := 162) rfl)) rfl
theorem wse_X6_fault : Cond.selects RX6 yX6_fault yX6_fault ∈ TB := TB_of (tb_2 (List.mem_of_getElem? (i := 163) rfl)) rfl
theorem wcd_X6_fault : Cond.code yX6_fault cX6_fault 1 (some .int) ∈ TB := TB_of (tb_2 (List.mem_of_getElem? (i := 164) rfl)) rfl
theorem wml_RX6_142 : Cond.methodLink RX6 142 yX2_firstFault ∈ TB := TB_of (tb_2 (List.mem_of_getElem? (i := 165) rfl)) rfl
theorem wim_X2_firstFault : Cond.instanceMethod yX2_firstFault ∈ TB := TB_of (tb_2 (List.mem_of_getElem? (i := 166) rfl)) rfl
theorem wse_X2_firstFault : Cond.selects RX2 yX2_firstFault yX2_firstFault ∈ TB := TB_of (tb_2 (List.mem_of_getElem? (i := 167) rfl)) rfl
theorem wcd_X2_firstFault : Cond.code yX2_firstFault cX2_firstFault 2 (some .int) ∈ TB := TB_of (tb_2 (List.mem_of_getElem? (i := 168) rfl)) rfl
theorem wml_RX2_19 : Cond.methodLink RX2 19 yX2_rewind ∈ TB := TB_of (tb_2 (List.mem_of_getElem? (i := 169) rfl)) rfl
theorem wim_X2_rewind : Cond.instanceMethod yX2_rewind ∈ TB := TB_of (tb_2 (List.mem_of_getElem? (i := 170) rfl)) rfl
theorem wse_X2_rewind : Cond.selects RX2 yX2_rewind yX2_rewind ∈ TB := TB_of (tb_2 (List.mem_of_getElem? (i := 171) rfl)) rfl
theorem wcd_X2_rewind : Cond.code yX2_rewind cX2_rewind 1 none ∈ TB := TB_of (tb_2 (List.mem_of_getElem? (i := 172) rfl)) rfl
theorem wml_RX2_22 : Cond.methodLink RX2 22 yX2_readOrder ∈ TB := TB_of (tb_2 (List.mem_of_getElem? (i := 173) rfl)) rfl
theorem wim_X2_readOrder : Cond.instanceMethod yX2_readOrder ∈ TB := TB_of (tb_2 (List.mem_of_getElem? (i := 175) rfl)) rfl
theorem wcd_X2_readOrder : Cond.code yX2_readOrder cX2_readOrder 1 (some .boolean) ∈ TB := TB_of (tb_2 (List.mem_of_getElem? (i := 176) rfl)) rfl
theorem wml_RX2_38 : Cond.methodLink RX2 38 yX3_signAt ∈ TB := TB_of (tb_2 (List.mem_of_getElem? (i := 177) rfl)) rfl
theorem wim_X3_signAt : Cond.instanceMethod yX3_signAt ∈ TB := TB_of (tb_2 (List.mem_of_getElem? (i := 178) rfl)) rfl
theorem wse_X3_signAt : Cond.selects RX3 yX3_signAt yX3_signAt ∈ TB := TB_of (tb_2 (List.mem_of_getElem? (i := 179) rfl)) rfl
theorem wcd_X3_signAt : Cond.code yX3_signAt cX3_signAt 2 (some .char) ∈ TB := TB_of (tb_2 (List.mem_of_getElem? (i := 180) rfl)) rfl
theorem wml_RX2_46 : Cond.methodLink RX2 46 yX2_readOwner ∈ TB := TB_of (tb_2 (List.mem_of_getElem? (i := 181) rfl)) rfl
theorem wim_X2_readOwner : Cond.instanceMethod yX2_readOwner ∈ TB := TB_of (tb_2 (List.mem_of_getElem? (i := 183) rfl)) rfl
theorem wcd_X2_readOwner : Cond.code yX2_readOwner cX2_readOwner 1 (some .boolean) ∈ TB := TB_of (tb_2 (List.mem_of_getElem? (i := 184) rfl)) rfl
theorem wml_RX2_53 : Cond.methodLink RX2 53 yX2_digitAt ∈ TB := TB_of (tb_2 (List.mem_of_getElem? (i := 185) rfl)) rfl
theorem wim_X2_digitAt : Cond.instanceMethod yX2_digitAt ∈ TB := TB_of (tb_2 (List.mem_of_getElem? (i := 187) rfl)) rfl
theorem wcd_X2_digitAt : Cond.code yX2_digitAt cX2_digitAt 3 (some .int) ∈ TB := TB_of (tb_2 (List.mem_of_getElem? (i := 188) rfl)) rfl
theorem wml_RX2_31 : Cond.methodLink RX2 31 yX2_readSign ∈ TB := TB_of (tb_2 (List.mem_of_getElem? (i := 190) rfl)) rfl
theorem wim_X2_readSign : Cond.instanceMethod yX2_readSign ∈ TB := TB_of (tb_2 (List.mem_of_getElem? (i := 192) rfl)) rfl
theorem wcd_X2_readSign : Cond.code yX2_readSign cX2_readSign 2 (some .boolean) ∈ TB := TB_of (tb_2 (List.mem_of_getElem? (i := 193) rfl)) rfl
theorem wml_RX2_49 : Cond.methodLink RX2 49 yX2_readNumber ∈ TB := TB_of (tb_2 (List.mem_of_getElem? (i := 194) rfl)) rfl
theorem wim_X2_readNumber : Cond.instanceMethod yX2_readNumber ∈ TB := TB_of (tb_2 (List.mem_of_getElem? (i := 196) rfl)) rfl
theorem wcd_X2_readNumber : Cond.code yX2_readNumber cX2_readNumber 4 (some .boolean) ∈ TB := TB_of (tb_2 (List.mem_of_getElem? (i := 197) rfl)) rfl
theorem wml_RX2_64 : Cond.methodLink RX2 64 yX2_isAllowed ∈ TB := TB_of (tb_2 (List.mem_of_getElem? (i := 198) rfl)) rfl
theorem wst_X2_isAllowed : Cond.static yX2_isAllowed ∈ TB := TB_of (tb_2 (List.mem_of_getElem? (i := 199) rfl)) rfl
theorem wcd_X2_isAllowed : Cond.code yX2_isAllowed cX2_isAllowed 2 (some .boolean) ∈ TB := TB_of (tb_2 (List.mem_of_getElem? (i := 200) rfl)) rfl
theorem wml_RX2_71 : Cond.methodLink RX2 71 yX4_isGangway ∈ TB := TB_of (tb_2 (List.mem_of_getElem? (i := 201) rfl)) rfl
theorem wml_RL_69 : Cond.methodLink RL 69 yX6_run ∈ TB := TB_of (tb_2 (List.mem_of_getElem? (i := 203) rfl)) rfl
theorem wim_X6_run : Cond.instanceMethod yX6_run ∈ TB := TB_of (tb_2 (List.mem_of_getElem? (i := 204) rfl)) rfl
theorem wse_X6_run : Cond.selects RX6 yX6_run yX6_run ∈ TB := TB_of (tb_2 (List.mem_of_getElem? (i := 205) rfl)) rfl
theorem wcd_X6_run : Cond.code yX6_run cX6_run 4 (some .int) ∈ TB := TB_of (tb_2 (List.mem_of_getElem? (i := 206) rfl)) rfl
theorem wml_RX6_149 : Cond.methodLink RX6 149 yX2_rewind ∈ TB := TB_of (tb_2 (List.mem_of_getElem? (i := 207) rfl)) rfl
theorem wml_RX6_152 : Cond.methodLink RX6 152 yX2_readNext ∈ TB := TB_of (tb_2 (List.mem_of_getElem? (i := 208) rfl)) rfl
theorem wim_X2_readNext : Cond.instanceMethod yX2_readNext ∈ TB := TB_of (tb_2 (List.mem_of_getElem? (i := 209) rfl)) rfl
theorem wse_X2_readNext : Cond.selects RX2 yX2_readNext yX2_readNext ∈ TB := TB_of (tb_2 (List.mem_of_getElem? (i := 210) rfl)) rfl
theorem wcd_X2_readNext : Cond.code yX2_readNext cX2_readNext 2 (some .boolean) ∈ TB := TB_of (tb_2 (List.mem_of_getElem? (i := 211) rfl)) rfl
theorem wml_RX6_156 : Cond.methodLink RX6 156 yX6_carryOutOrder ∈ TB := TB_of (tb_2 (List.mem_of_getElem? (i := 212) rfl)) rfl
theorem wim_X6_carryOutOrder : Cond.instanceMethod yX6_carryOutOrder ∈ TB := TB_of (tb_2 (List.mem_of_getElem? (i := 214) rfl)) rfl
theorem wcd_X6_carryOutOrder : Cond.code yX6_carryOutOrder cX6_carryOutOrder 1 (some .int) ∈ TB := TB_of (tb_2 (List.mem_of_getElem? (i := 215) rfl)) rfl
theorem wml_RX6_289 : Cond.methodLink RX6 289 yX6_causeIn ∈ TB := TB_of (tb_2 (List.mem_of_getElem? (i := 216) rfl)) rfl
theorem wst_X6_causeIn : Cond.static yX6_causeIn ∈ TB := TB_of (tb_2 (List.mem_of_getElem? (i := 217) rfl)) rfl
theorem wcd_X6_causeIn : Cond.code yX6_causeIn cX6_causeIn 1 (some .int) ∈ TB := TB_of (tb_2 (List.mem_of_getElem? (i := 218) rfl)) rfl
theorem wml_RX6_159 : Cond.methodLink RX6 159 yX6_keepStop ∈ TB := TB_of (tb_2 (List.mem_of_getElem? (i := 219) rfl)) rfl
theorem wim_X6_keepStop : Cond.instanceMethod yX6_keepStop ∈ TB := TB_of (tb_2 (List.mem_of_getElem? (i := 221) rfl)) rfl
theorem wcd_X6_keepStop : Cond.code yX6_keepStop cX6_keepStop 3 none ∈ TB := TB_of (tb_2 (List.mem_of_getElem? (i := 222) rfl)) rfl
theorem wml_RL_73 : Cond.methodLink RL 73 yX6_why ∈ TB := TB_of (tb_2 (List.mem_of_getElem? (i := 223) rfl)) rfl
theorem wim_X6_why : Cond.instanceMethod yX6_why ∈ TB := TB_of (tb_2 (List.mem_of_getElem? (i := 224) rfl)) rfl
theorem wse_X6_why : Cond.selects RX6 yX6_why yX6_why ∈ TB := TB_of (tb_2 (List.mem_of_getElem? (i := 225) rfl)) rfl
theorem wcd_X6_why : Cond.code yX6_why cX6_why 2 (some .int) ∈ TB := TB_of (tb_2 (List.mem_of_getElem? (i := 226) rfl)) rfl
theorem wml_RL_77 : Cond.methodLink RL 77 yX6_roof ∈ TB := TB_of (tb_2 (List.mem_of_getElem? (i := 227) rfl)) rfl
theorem wim_X6_roof : Cond.instanceMethod yX6_roof ∈ TB := TB_of (tb_2 (List.mem_of_getElem? (i := 228) rfl)) rfl
theorem wse_X6_roof : Cond.selects RX6 yX6_roof yX6_roof ∈ TB := TB_of (tb_2 (List.mem_of_getElem? (i := 229) rfl)) rfl
theorem wcd_X6_roof : Cond.code yX6_roof cX6_roof 3 (some .int) ∈ TB := TB_of (tb_2 (List.mem_of_getElem? (i := 230) rfl)) rfl
theorem wml_RX6_174 : Cond.methodLink RX6 174 yX6_bitOf ∈ TB := TB_of (tb_2 (List.mem_of_getElem? (i := 231) rfl)) rfl
theorem wst_X6_bitOf : Cond.static yX6_bitOf ∈ TB := TB_of (tb_2 (List.mem_of_getElem? (i := 232) rfl)) rfl
theorem wcd_X6_bitOf : Cond.code yX6_bitOf cX6_bitOf 2 (some .int) ∈ TB := TB_of (tb_2 (List.mem_of_getElem? (i := 233) rfl)) rfl
theorem wml_RX6_177 : Cond.methodLink RX6 177 yX0_chimneysSmoking ∈ TB := TB_of (tb_2 (List.mem_of_getElem? (i := 234) rfl)) rfl
theorem wim_X0_chimneysSmoking : Cond.instanceMethod yX0_chimneysSmoking ∈ TB := TB_of (tb_2 (List.mem_of_getElem? (i := 235) rfl)) rfl
theorem wse_X0_chimneysSmoking : Cond.selects RX0 yX0_chimneysSmoking yX0_chimneysSmoking ∈ TB := TB_of (tb_2 (List.mem_of_getElem? (i := 236) rfl)) rfl
theorem wcd_X0_chimneysSmoking : Cond.code yX0_chimneysSmoking cX0_chimneysSmoking 4 (some .int) ∈ TB := TB_of (tb_2 (List.mem_of_getElem? (i := 237) rfl)) rfl
theorem wml_RX6_180 : Cond.methodLink RX6 180 yX0_ownersOn ∈ TB := TB_of (tb_2 (List.mem_of_getElem? (i := 238) rfl)) rfl
theorem wim_X0_ownersOn : Cond.instanceMethod yX0_ownersOn ∈ TB := TB_of (tb_2 (List.mem_of_getElem? (i := 239) rfl)) rfl
theorem wse_X0_ownersOn : Cond.selects RX0 yX0_ownersOn yX0_ownersOn ∈ TB := TB_of (tb_3 (List.mem_of_getElem? (i := 0) rfl)) rfl
theorem wcd_X0_ownersOn : Cond.code yX0_ownersOn cX0_ownersOn 4 (some .int) ∈ TB := TB_of (tb_3 (List.mem_of_getElem? (i := 1) rfl)) rfl
theorem wml_RX6_183 : Cond.methodLink RX6 183 yX0_standingGangways ∈ TB := TB_of (tb_3 (List.mem_of_getElem? (i := 2) rfl)) rfl
theorem wim_X0_standingGangways : Cond.instanceMethod yX0_standingGangways ∈ TB := TB_of (tb_3 (List.mem_of_getElem? (i := 3) rfl)) rfl
theorem wse_X0_standingGangways : Cond.selects RX0 yX0_standingGangways yX0_standingGangways ∈ TB := TB_of (tb_3 (List.mem_of_getElem? (i := 4) rfl)) rfl
theorem wcd_X0_standingGangways : Cond.code yX0_standingGangways cX0_standingGangways 3 (some .int) ∈ TB := TB_of (tb_3 (List.mem_of_getElem? (i := 5) rfl)) rfl
theorem wml_RX6_186 : Cond.methodLink RX6 186 yX4_gangwaysOf ∈ TB := TB_of (tb_3 (List.mem_of_getElem? (i := 6) rfl)) rfl
theorem wst_X4_gangwaysOf : Cond.static yX4_gangwaysOf ∈ TB := TB_of (tb_3 (List.mem_of_getElem? (i := 7) rfl)) rfl
theorem wcd_X4_gangwaysOf : Cond.code yX4_gangwaysOf cX4_gangwaysOf 3 (some .int) ∈ TB := TB_of (tb_3 (List.mem_of_getElem? (i := 8) rfl)) rfl
theorem wml_RX4_22 : Cond.methodLink RX4 22 yX4_isGangway ∈ TB := TB_of (tb_3 (List.mem_of_getElem? (i := 9) rfl)) rfl
theorem wml_RX4_26 : Cond.methodLink RX4 26 yX4_roofsOf ∈ TB := TB_of (tb_3 (List.mem_of_getElem? (i := 10) rfl)) rfl
theorem wml_RX6_189 : Cond.methodLink RX6 189 yX0_allLines ∈ TB := TB_of (tb_3 (List.mem_of_getElem? (i := 12) rfl)) rfl
theorem wml_RX6_192 : Cond.methodLink RX6 192 yX5_roofsFrom ∈ TB := TB_of (tb_3 (List.mem_of_getElem? (i := 13) rfl)) rfl
theorem wim_X5_roofsFrom : Cond.instanceMethod yX5_roofsFrom ∈ TB := TB_of (tb_3 (List.mem_of_getElem? (i := 14) rfl)) rfl
theorem wse_X5_roofsFrom : Cond.selects RX5 yX5_roofsFrom yX5_roofsFrom ∈ TB := TB_of (tb_3 (List.mem_of_getElem? (i := 15) rfl)) rfl
theorem wcd_X5_roofsFrom : Cond.code yX5_roofsFrom cX5_roofsFrom 7 (some .int) ∈ TB := TB_of (tb_3 (List.mem_of_getElem? (i := 16) rfl)) rfl
theorem wml_RX5_64 : Cond.methodLink RX5 64 yX4_roofsOf ∈ TB := TB_of (tb_3 (List.mem_of_getElem? (i := 17) rfl)) rfl
theorem wml_RX5_67 : Cond.methodLink RX5 67 yX0_isThere ∈ TB := TB_of (tb_3 (List.mem_of_getElem? (i := 18) rfl)) rfl
theorem wml_RL_81 : Cond.methodLink RL 81 yX6_gangway ∈ TB := TB_of (tb_3 (List.mem_of_getElem? (i := 19) rfl)) rfl
theorem wim_X6_gangway : Cond.instanceMethod yX6_gangway ∈ TB := TB_of (tb_3 (List.mem_of_getElem? (i := 20) rfl)) rfl
theorem wse_X6_gangway : Cond.selects RX6 yX6_gangway yX6_gangway ∈ TB := TB_of (tb_3 (List.mem_of_getElem? (i := 21) rfl)) rfl
theorem wcd_X6_gangway : Cond.code yX6_gangway cX6_gangway 3 (some .int) ∈ TB := TB_of (tb_3 (List.mem_of_getElem? (i := 22) rfl)) rfl
theorem wml_RX6_196 : Cond.methodLink RX6 196 yX4_lesserRoof ∈ TB := TB_of (tb_3 (List.mem_of_getElem? (i := 23) rfl)) rfl
theorem wml_RX6_199 : Cond.methodLink RX6 199 yX4_greaterRoof ∈ TB := TB_of (tb_3 (List.mem_of_getElem? (i := 24) rfl)) rfl
theorem wml_RX6_202 : Cond.methodLink RX6 202 yX0_hasLine ∈ TB := TB_of (tb_3 (List.mem_of_getElem? (i := 25) rfl)) rfl
theorem wml_RX6_214 : Cond.methodLink RX6 214 yX4_roofsOf ∈ TB := TB_of (tb_3 (List.mem_of_getElem? (i := 26) rfl)) rfl
theorem wml_RL_85 : Cond.methodLink RL 85 yX6_ownerOf ∈ TB := TB_of (tb_3 (List.mem_of_getElem? (i := 27) rfl)) rfl
theorem wim_X6_ownerOf : Cond.instanceMethod yX6_ownerOf ∈ TB := TB_of (tb_3 (List.mem_of_getElem? (i := 28) rfl)) rfl
theorem wse_X6_ownerOf : Cond.selects RX6 yX6_ownerOf yX6_ownerOf ∈ TB := TB_of (tb_3 (List.mem_of_getElem? (i := 29) rfl)) rfl
theorem wcd_X6_ownerOf : Cond.code yX6_ownerOf cX6_ownerOf 3 (some .int) ∈ TB := TB_of (tb_3 (List.mem_of_getElem? (i := 30) rfl)) rfl
theorem wml_RX6_223 : Cond.methodLink RX6 223 yX0_linesOf ∈ TB := TB_of (tb_3 (List.mem_of_getElem? (i := 31) rfl)) rfl
theorem wim_X0_linesOf : Cond.instanceMethod yX0_linesOf ∈ TB := TB_of (tb_3 (List.mem_of_getElem? (i := 32) rfl)) rfl
theorem wse_X0_linesOf : Cond.selects RX0 yX0_linesOf yX0_linesOf ∈ TB := TB_of (tb_3 (List.mem_of_getElem? (i := 33) rfl)) rfl
theorem wcd_X0_linesOf : Cond.code yX0_linesOf cX0_linesOf 4 (some .int) ∈ TB := TB_of (tb_3 (List.mem_of_getElem? (i := 34) rfl)) rfl
theorem wml_RX6_226 : Cond.methodLink RX6 226 yX0_walksOpenTo ∈ TB := TB_of (tb_3 (List.mem_of_getElem? (i := 35) rfl)) rfl
theorem wim_X0_walksOpenTo : Cond.instanceMethod yX0_walksOpenTo ∈ TB := TB_of (tb_3 (List.mem_of_getElem? (i := 36) rfl)) rfl
theorem wse_X0_walksOpenTo : Cond.selects RX0 yX0_walksOpenTo yX0_walksOpenTo ∈ TB := TB_of (tb_3 (List.mem_of_getElem? (i := 37) rfl)) rfl
theorem wcd_X0_walksOpenTo : Cond.code yX0_walksOpenTo cX0_walksOpenTo 5 (some .int) ∈ TB := TB_of (tb_3 (List.mem_of_getElem? (i := 38) rfl)) rfl
theorem wml_RX0_145 : Cond.methodLink RX0 145 yX0_standsAt ∈ TB := TB_of (tb_3 (List.mem_of_getElem? (i := 39) rfl)) rfl
theorem wml_RX6_232 : Cond.methodLink RX6 232 yX0_hangingsOpenTo ∈ TB := TB_of (tb_3 (List.mem_of_getElem? (i := 40) rfl)) rfl
theorem wim_X0_hangingsOpenTo : Cond.instanceMethod yX0_hangingsOpenTo ∈ TB := TB_of (tb_3 (List.mem_of_getElem? (i := 41) rfl)) rfl
theorem wse_X0_hangingsOpenTo : Cond.selects RX0 yX0_hangingsOpenTo yX0_hangingsOpenTo ∈ TB := TB_of (tb_3 (List.mem_of_getElem? (i := 42) rfl)) rfl
theorem wcd_X0_hangingsOpenTo : Cond.code yX0_hangingsOpenTo cX0_hangingsOpenTo 4 (some .int) ∈ TB := TB_of (tb_3 (List.mem_of_getElem? (i := 43) rfl)) rfl
theorem wml_RL_89 : Cond.methodLink RL 89 yX6_whyNotHang ∈ TB := TB_of (tb_3 (List.mem_of_getElem? (i := 44) rfl)) rfl
theorem wim_X6_whyNotHang : Cond.instanceMethod yX6_whyNotHang ∈ TB := TB_of (tb_3 (List.mem_of_getElem? (i := 45) rfl)) rfl
theorem wse_X6_whyNotHang : Cond.selects RX6 yX6_whyNotHang yX6_whyNotHang ∈ TB := TB_of (tb_3 (List.mem_of_getElem? (i := 46) rfl)) rfl
theorem wcd_X6_whyNotHang : Cond.code yX6_whyNotHang cX6_whyNotHang 3 (some .int) ∈ TB := TB_of (tb_3 (List.mem_of_getElem? (i := 47) rfl)) rfl
theorem wml_RX6_235 : Cond.methodLink RX6 235 yX0_reasonNotToHang ∈ TB := TB_of (tb_3 (List.mem_of_getElem? (i := 48) rfl)) rfl
theorem wml_RL_93 : Cond.methodLink RL 93 yX6_strongest ∈ TB := TB_of (tb_3 (List.mem_of_getElem? (i := 49) rfl)) rfl
theorem wim_X6_strongest : Cond.instanceMethod yX6_strongest ∈ TB := TB_of (tb_3 (List.mem_of_getElem? (i := 50) rfl)) rfl
theorem wse_X6_strongest : Cond.selects RX6 yX6_strongest yX6_strongest ∈ TB := TB_of (tb_3 (List.mem_of_getElem? (i := 51) rfl)) rfl
theorem wcd_X6_strongest : Cond.code yX6_strongest cX6_strongest 4 (some .int) ∈ TB := TB_of (tb_3 (List.mem_of_getElem? (i := 52) rfl)) rfl
theorem wml_RX6_238 : Cond.methodLink RX6 238 yX5_strongestByJoining ∈ TB := TB_of (tb_3 (List.mem_of_getElem? (i := 53) rfl)) rfl
theorem wim_X5_strongestByJoining : Cond.instanceMethod yX5_strongestByJoining ∈ TB := TB_of (tb_3 (List.mem_of_getElem? (i := 54) rfl)) rfl
theorem wse_X5_strongestByJoining : Cond.selects RX5 yX5_strongestByJoining yX5_strongestByJoining ∈ TB := TB_of (tb_3 (List.mem_of_getElem? (i := 55) rfl)) rfl
theorem wcd_X5_strongestByJoining : Cond.code yX5_strongestByJoining cX5_strongestByJoining 5 (some .int) ∈ TB := TB_of (tb_3 (List.mem_of_getElem? (i := 56) rfl)) rfl
theorem wml_RX5_18 : Cond.methodLink RX5 18 yX5_joinOver ∈ TB := TB_of (tb_3 (List.mem_of_getElem? (i := 57) rfl)) rfl
theorem wim_X5_joinOver : Cond.instanceMethod yX5_joinOver ∈ TB := TB_of (tb_3 (List.mem_of_getElem? (i := 59) rfl)) rfl
theorem wcd_X5_joinOver : Cond.code yX5_joinOver cX5_joinOver 4 none ∈ TB := TB_of (tb_3 (List.mem_of_getElem? (i := 60) rfl)) rfl
theorem wml_RX5_22 : Cond.methodLink RX5 22 yX4_isGangway ∈ TB := TB_of (tb_3 (List.mem_of_getElem? (i := 61) rfl)) rfl
theorem wml_RX5_33 : Cond.methodLink RX5 33 yX4_greaterRoof ∈ TB := TB_of (tb_3 (List.mem_of_getElem? (i := 62) rfl)) rfl
theorem wml_RX5_37 : Cond.methodLink RX5 37 yX4_lesserRoof ∈ TB := TB_of (tb_3 (List.mem_of_getElem? (i := 63) rfl)) rfl
theorem wml_RX5_40 : Cond.methodLink RX5 40 yX5_rename ∈ TB := TB_of (tb_3 (List.mem_of_getElem? (i := 64) rfl)) rfl
theorem wim_X5_rename : Cond.instanceMethod yX5_rename ∈ TB := TB_of (tb_3 (List.mem_of_getElem? (i := 66) rfl)) rfl
theorem wcd_X5_rename : Cond.code yX5_rename cX5_rename 4 none ∈ TB := TB_of (tb_3 (List.mem_of_getElem? (i := 67) rfl)) rfl
theorem wml_RX6_242 : Cond.methodLink RX6 242 yX5_strongestBySpreading ∈ TB := TB_of (tb_3 (List.mem_of_getElem? (i := 68) rfl)) rfl
theorem wim_X5_strongestBySpreading : Cond.instanceMethod yX5_strongestBySpreading ∈ TB := TB_of (tb_3 (List.mem_of_getElem? (i := 69) rfl)) rfl
theorem wse_X5_strongestBySpreading : Cond.selects RX5 yX5_strongestBySpreading yX5_strongestBySpreading ∈ TB := TB_of (tb_3 (List.mem_of_getElem? (i := 70) rfl)) rfl
theorem wcd_X5_strongestBySpreading : Cond.code yX5_strongestBySpreading cX5_strongestBySpreading 6 (some .int) ∈ TB := TB_of (tb_3 (List.mem_of_getElem? (i := 71) rfl)) rfl
theorem wml_RX5_44 : Cond.methodLink RX5 44 yJ7_fill_53178 ∈ TB := TB_of (tb_3 (List.mem_of_getElem? (i := 72) rfl)) rfl
theorem wml_RX5_50 : Cond.methodLink RX5 50 yX5_spread ∈ TB := TB_of (tb_3 (List.mem_of_getElem? (i := 73) rfl)) rfl
theorem wim_X5_spread : Cond.instanceMethod yX5_spread ∈ TB := TB_of (tb_3 (List.mem_of_getElem? (i := 75) rfl)) rfl
theorem wcd_X5_spread : Cond.code yX5_spread cX5_spread 8 (some .boolean) ∈ TB := TB_of (tb_3 (List.mem_of_getElem? (i := 76) rfl)) rfl
theorem wml_RX5_54 : Cond.methodLink RX5 54 yJ9_min_7cf53 ∈ TB := TB_of (tb_3 (List.mem_of_getElem? (i := 77) rfl)) rfl
theorem wml_RX5_60 : Cond.methodLink RX5 60 yX5_raise ∈ TB := TB_of (tb_3 (List.mem_of_getElem? (i := 78) rfl)) rfl
theorem wim_X5_raise : Cond.instanceMethod yX5_raise ∈ TB := TB_of (tb_3 (List.mem_of_getElem? (i := 80) rfl)) rfl
theorem wcd_X5_raise : Cond.code yX5_raise cX5_raise 3 (some .boolean) ∈ TB := TB_of (tb_3 (List.mem_of_getElem? (i := 81) rfl)) rfl
theorem wml_RL_98 : Cond.methodLink RL 98 yX6_steps ∈ TB := TB_of (tb_3 (List.mem_of_getElem? (i := 82) rfl)) rfl
theorem wim_X6_steps : Cond.instanceMethod yX6_steps ∈ TB := TB_of (tb_3 (List.mem_of_getElem? (i := 83) rfl)) rfl
theorem wse_X6_steps : Cond.selects RX6 yX6_steps yX6_steps ∈ TB := TB_of (tb_3 (List.mem_of_getElem? (i := 84) rfl)) rfl
theorem wcd_X6_steps : Cond.code yX6_steps cX6_steps 3 (some .int) ∈ TB := TB_of (tb_3 (List.mem_of_getElem? (i := 85) rfl)) rfl
theorem wml_RX6_245 : Cond.methodLink RX6 245 yX5_fewestWalks ∈ TB := TB_of (tb_3 (List.mem_of_getElem? (i := 86) rfl)) rfl
theorem wim_X5_fewestWalks : Cond.instanceMethod yX5_fewestWalks ∈ TB := TB_of (tb_3 (List.mem_of_getElem? (i := 87) rfl)) rfl
theorem wse_X5_fewestWalks : Cond.selects RX5 yX5_fewestWalks yX5_fewestWalks ∈ TB := TB_of (tb_3 (List.mem_of_getElem? (i := 88) rfl)) rfl
theorem wcd_X5_fewestWalks : Cond.code yX5_fewestWalks cX5_fewestWalks 6 (some .int) ∈ TB := TB_of (tb_3 (List.mem_of_getElem? (i := 89) rfl)) rfl
theorem wml_RX5_76 : Cond.methodLink RX5 76 yX5_oneWalkFurther ∈ TB := TB_of (tb_3 (List.mem_of_getElem? (i := 91) rfl)) rfl
theorem wim_X5_oneWalkFurther : Cond.instanceMethod yX5_oneWalkFurther ∈ TB := TB_of (tb_3 (List.mem_of_getElem? (i := 93) rfl)) rfl
theorem wcd_X5_oneWalkFurther : Cond.code yX5_oneWalkFurther cX5_oneWalkFurther 8 (some .int) ∈ TB := TB_of (tb_3 (List.mem_of_getElem? (i := 94) rfl)) rfl
theorem wml_RX5_80 : Cond.methodLink RX5 80 yX0_reasonNotToWalk ∈ TB := TB_of (tb_3 (List.mem_of_getElem? (i := 95) rfl)) rfl
theorem wml_RL_102 : Cond.methodLink RL 102 yX6_count ∈ TB := TB_of (tb_3 (List.mem_of_getElem? (i := 96) rfl)) rfl
theorem wim_X6_count : Cond.instanceMethod yX6_count ∈ TB := TB_of (tb_3 (List.mem_of_getElem? (i := 97) rfl)) rfl
theorem wse_X6_count : Cond.selects RX6 yX6_count yX6_count ∈ TB := TB_of (tb_3 (List.mem_of_getElem? (i := 98) rfl)) rfl
theorem wcd_X6_count : Cond.code yX6_count cX6_count 2 (some .int) ∈ TB := TB_of (tb_3 (List.mem_of_getElem? (i := 99) rfl)) rfl
theorem wml_RX6_251 : Cond.methodLink RX6 251 yX0_numberOfNow ∈ TB := TB_of (tb_3 (List.mem_of_getElem? (i := 100) rfl)) rfl
theorem wim_X0_numberOfNow : Cond.instanceMethod yX0_numberOfNow ∈ TB := TB_of (tb_3 (List.mem_of_getElem? (i := 101) rfl)) rfl
theorem wse_X0_numberOfNow : Cond.selects RX0 yX0_numberOfNow yX0_numberOfNow ∈ TB := TB_of (tb_3 (List.mem_of_getElem? (i := 102) rfl)) rfl
theorem wcd_X0_numberOfNow : Cond.code yX0_numberOfNow cX0_numberOfNow 2 (some .int) ∈ TB := TB_of (tb_3 (List.mem_of_getElem? (i := 103) rfl)) rfl
theorem wml_RX0_148 : Cond.methodLink RX0 148 yX0_cleanLines ∈ TB := TB_of (tb_3 (List.mem_of_getElem? (i := 104) rfl)) rfl
theorem wml_RX0_151 : Cond.methodLink RX0 151 yX0_sumOverLines ∈ TB := TB_of (tb_3 (List.mem_of_getElem? (i := 105) rfl)) rfl
theorem wim_X0_sumOverLines : Cond.instanceMethod yX0_sumOverLines ∈ TB := TB_of (tb_3 (List.mem_of_getElem? (i := 106) rfl)) rfl
theorem wse_X0_sumOverLines : Cond.selects RX0 yX0_sumOverLines yX0_sumOverLines ∈ TB := TB_of (tb_3 (List.mem_of_getElem? (i := 107) rfl)) rfl
theorem wcd_X0_sumOverLines : Cond.code yX0_sumOverLines cX0_sumOverLines 4 (some .int) ∈ TB := TB_of (tb_3 (List.mem_of_getElem? (i := 108) rfl)) rfl
theorem wml_RX0_155 : Cond.methodLink RX0 155 yX0_linesSmokedBy ∈ TB := TB_of (tb_3 (List.mem_of_getElem? (i := 109) rfl)) rfl
theorem wim_X0_linesSmokedBy : Cond.instanceMethod yX0_linesSmokedBy ∈ TB := TB_of (tb_3 (List.mem_of_getElem? (i := 110) rfl)) rfl
theorem wse_X0_linesSmokedBy : Cond.selects RX0 yX0_linesSmokedBy yX0_linesSmokedBy ∈ TB := TB_of (tb_3 (List.mem_of_getElem? (i := 111) rfl)) rfl
theorem wcd_X0_linesSmokedBy : Cond.code yX0_linesSmokedBy cX0_linesSmokedBy 5 (some .int) ∈ TB := TB_of (tb_3 (List.mem_of_getElem? (i := 112) rfl)) rfl
theorem wml_RX6_254 : Cond.methodLink RX6 254 yX0_numberSoFar ∈ TB := TB_of (tb_3 (List.mem_of_getElem? (i := 113) rfl)) rfl
theorem wim_X0_numberSoFar : Cond.instanceMethod yX0_numberSoFar ∈ TB := TB_of (tb_3 (List.mem_of_getElem? (i := 114) rfl)) rfl
theorem wse_X0_numberSoFar : Cond.selects RX0 yX0_numberSoFar yX0_numberSoFar ∈ TB := TB_of (tb_3 (List.mem_of_getElem? (i := 115) rfl)) rfl
theorem wcd_X0_numberSoFar : Cond.code yX0_numberSoFar cX0_numberSoFar 2 (some .int) ∈ TB := TB_of (tb_3 (List.mem_of_getElem? (i := 116) rfl)) rfl
theorem wml_RL_106 : Cond.methodLink RL 106 yX6_cleanness ∈ TB := TB_of (tb_3 (List.mem_of_getElem? (i := 117) rfl)) rfl
theorem wim_X6_cleanness : Cond.instanceMethod yX6_cleanness ∈ TB := TB_of (tb_3 (List.mem_of_getElem? (i := 118) rfl)) rfl
theorem wse_X6_cleanness : Cond.selects RX6 yX6_cleanness yX6_cleanness ∈ TB := TB_of (tb_3 (List.mem_of_getElem? (i := 119) rfl)) rfl
theorem wcd_X6_cleanness : Cond.code yX6_cleanness cX6_cleanness 2 (some .double) ∈ TB := TB_of (tb_3 (List.mem_of_getElem? (i := 120) rfl)) rfl
theorem wml_RL_111 : Cond.methodLink RL 111 yX6_ifWind ∈ TB := TB_of (tb_3 (List.mem_of_getElem? (i := 121) rfl)) rfl
theorem wim_X6_ifWind : Cond.instanceMethod yX6_ifWind ∈ TB := TB_of (tb_3 (List.mem_of_getElem? (i := 122) rfl)) rfl
theorem wse_X6_ifWind : Cond.selects RX6 yX6_ifWind yX6_ifWind ∈ TB := TB_of (tb_3 (List.mem_of_getElem? (i := 123) rfl)) rfl
theorem wcd_X6_ifWind : Cond.code yX6_ifWind cX6_ifWind 2 (some .int) ∈ TB := TB_of (tb_3 (List.mem_of_getElem? (i := 124) rfl)) rfl
theorem wml_RX6_257 : Cond.methodLink RX6 257 yX0_linesSmokedBy ∈ TB := TB_of (tb_3 (List.mem_of_getElem? (i := 125) rfl)) rfl
theorem wml_RL_115 : Cond.methodLink RL 115 yX6_bestWind ∈ TB := TB_of (tb_3 (List.mem_of_getElem? (i := 126) rfl)) rfl
theorem wim_X6_bestWind : Cond.instanceMethod yX6_bestWind ∈ TB := TB_of (tb_3 (List.mem_of_getElem? (i := 127) rfl)) rfl
theorem wse_X6_bestWind : Cond.selects RX6 yX6_bestWind yX6_bestWind ∈ TB := TB_of (tb_3 (List.mem_of_getElem? (i := 128) rfl)) rfl
theorem wcd_X6_bestWind : Cond.code yX6_bestWind cX6_bestWind 3 (some .int) ∈ TB := TB_of (tb_3 (List.mem_of_getElem? (i := 129) rfl)) rfl
theorem wml_RL_119 : Cond.methodLink RL 119 yX6_ifDays ∈ TB := TB_of (tb_3 (List.mem_of_getElem? (i := 130) rfl)) rfl
theorem wim_X6_ifDays : Cond.instanceMethod yX6_ifDays ∈ TB := TB_of (tb_3 (List.mem_of_getElem? (i := 131) rfl)) rfl
theorem wse_X6_ifDays : Cond.selects RX6 yX6_ifDays yX6_ifDays ∈ TB := TB_of (tb_3 (List.mem_of_getElem? (i := 132) rfl)) rfl
theorem wcd_X6_ifDays : Cond.code yX6_ifDays cX6_ifDays 4 (some .int) ∈ TB := TB_of (tb_3 (List.mem_of_getElem? (i := 133) rfl)) rfl
theorem wml_RX6_260 : Cond.methodLink RX6 260 yX0_copyFrom ∈ TB := TB_of (tb_3 (List.mem_of_getElem? (i := 134) rfl)) rfl
theorem wml_RX6_263 : Cond.methodLink RX6 263 yX0_sumOverLines ∈ TB := TB_of (tb_3 (List.mem_of_getElem? (i := 135) rfl)) rfl
theorem wml_RL_123 : Cond.methodLink RL 123 yX6_bestPlace ∈ TB := TB_of (tb_3 (List.mem_of_getElem? (i := 136) rfl)) rfl
theorem wim_X6_bestPlace : Cond.instanceMethod yX6_bestPlace ∈ TB := TB_of (tb_3 (List.mem_of_getElem? (i := 137) rfl)) rfl
theorem wse_X6_bestPlace : Cond.selects RX6 yX6_bestPlace yX6_bestPlace ∈ TB := TB_of (tb_3 (List.mem_of_getElem? (i := 138) rfl)) rfl
theorem wcd_X6_bestPlace : Cond.code yX6_bestPlace cX6_bestPlace 6 (some .int) ∈ TB := TB_of (tb_3 (List.mem_of_getElem? (i := 139) rfl)) rfl
theorem wml_RX6_267 : Cond.methodLink RX6 267 yX0_windsSmoking ∈ TB := TB_of (tb_3 (List.mem_of_getElem? (i := 140) rfl)) rfl
theorem wim_X0_windsSmoking : Cond.instanceMethod yX0_windsSmoking ∈ TB := TB_of (tb_3 (List.mem_of_getElem? (i := 141) rfl)) rfl
theorem wse_X0_windsSmoking : Cond.selects RX0 yX0_windsSmoking yX0_windsSmoking ∈ TB := TB_of (tb_3 (List.mem_of_getElem? (i := 142) rfl)) rfl
theorem wcd_X0_windsSmoking : Cond.code yX0_windsSmoking cX0_windsSmoking 4 (some .int) ∈ TB := TB_of (tb_3 (List.mem_of_getElem? (i := 143) rfl)) rfl
theorem wml_RL_127 : Cond.methodLink RL 127 yX6_undo ∈ TB := TB_of (tb_3 (List.mem_of_getElem? (i := 144) rfl)) rfl
theorem wim_X6_undo : Cond.instanceMethod yX6_undo ∈ TB := TB_of (tb_3 (List.mem_of_getElem? (i := 145) rfl)) rfl
theorem wse_X6_undo : Cond.selects RX6 yX6_undo yX6_undo ∈ TB := TB_of (tb_3 (List.mem_of_getElem? (i := 146) rfl)) rfl
theorem wcd_X6_undo : Cond.code yX6_undo cX6_undo 1 (some .int) ∈ TB := TB_of (tb_3 (List.mem_of_getElem? (i := 147) rfl)) rfl
theorem wml_RX6_270 : Cond.methodLink RX6 270 yX1_popInto ∈ TB := TB_of (tb_3 (List.mem_of_getElem? (i := 148) rfl)) rfl
theorem wim_X1_popInto : Cond.instanceMethod yX1_popInto ∈ TB := TB_of (tb_3 (List.mem_of_getElem? (i := 149) rfl)) rfl
theorem wse_X1_popInto : Cond.selects RX1 yX1_popInto yX1_popInto ∈ TB := TB_of (tb_3 (List.mem_of_getElem? (i := 150) rfl)) rfl
theorem wcd_X1_popInto : Cond.code yX1_popInto cX1_popInto 4 none ∈ TB := TB_of (tb_3 (List.mem_of_getElem? (i := 151) rfl)) rfl
theorem wml_RX1_32 : Cond.methodLink RX1 32 yJ9_max_7cf53 ∈ TB := TB_of (tb_3 (List.mem_of_getElem? (i := 152) rfl)) rfl
theorem wst_J9_max_7cf53 : Cond.static yJ9_max_7cf53 ∈ TB := TB_of (tb_3 (List.mem_of_getElem? (i := 153) rfl)) rfl
theorem wcd_J9_max_7cf53 : Cond.code yJ9_max_7cf53 cJ9_max_7cf53 2 (some .int) ∈ TB := TB_of (tb_3 (List.mem_of_getElem? (i := 154) rfl)) rfl
theorem wml_RL_131 : Cond.methodLink RL 131 yX6_save ∈ TB := TB_of (tb_3 (List.mem_of_getElem? (i := 155) rfl)) rfl
theorem wim_X6_save : Cond.instanceMethod yX6_save ∈ TB := TB_of (tb_3 (List.mem_of_getElem? (i := 156) rfl)) rfl
theorem wse_X6_save : Cond.selects RX6 yX6_save yX6_save ∈ TB := TB_of (tb_3 (List.mem_of_getElem? (i := 157) rfl)) rfl
theorem wcd_X6_save : Cond.code yX6_save cX6_save 1 (some .int) ∈ TB := TB_of (tb_3 (List.mem_of_getElem? (i := 158) rfl)) rfl
theorem wml_RL_135 : Cond.methodLink RL 135 yX6_restore ∈ TB := TB_of (tb_3 (List.mem_of_getElem? (i := 159) rfl)) rfl
theorem wim_X6_restore : Cond.instanceMethod yX6_restore ∈ TB := TB_of (tb_3 (List.mem_of_getElem? (i := 160) rfl)) rfl
theorem wse_X6_restore : Cond.selects RX6 yX6_restore yX6_restore ∈ TB := TB_of (tb_3 (List.mem_of_getElem? (i := 161) rfl)) rfl
theorem wcd_X6_restore : Cond.code yX6_restore cX6_restore 1 (some .int) ∈ TB := TB_of (tb_3 (List.mem_of_getElem? (i := 162) rfl)) rfl
theorem wcl_RL_10 : Cond.classLink RL 10 RX7 ∈ TB := TB_of (tb_3 (List.mem_of_getElem? (i := 163) rfl)) rfl
theorem wis_RX7 : Cond.instantiable RX7 15 ∈ TB := TB_of (tb_3 (List.mem_of_getElem? (i := 164) rfl)) rfl
theorem wml_RL_12 : Cond.methodLink RL 12 yX7_init ∈ TB := TB_of (tb_3 (List.mem_of_getElem? (i := 165) rfl)) rfl
theorem wim_X7_init : Cond.instanceMethod yX7_init ∈ TB := TB_of (tb_3 (List.mem_of_getElem? (i := 166) rfl)) rfl
theorem wcd_X7_init : Cond.code yX7_init cX7_init 2 none ∈ TB := TB_of (tb_3 (List.mem_of_getElem? (i := 167) rfl)) rfl
theorem wml_RX7_1 : Cond.methodLink RX7 1 objectInit ∈ TB := TB_of (tb_3 (List.mem_of_getElem? (i := 168) rfl)) rfl
theorem wco_RX7_28 : Cond.constant RX7 28 65535 ∈ TB := TB_of (tb_3 (List.mem_of_getElem? (i := 169) rfl)) rfl
theorem wml_RX7_29 : Cond.methodLink RX7 29 yX7_isGangway ∈ TB := TB_of (tb_3 (List.mem_of_getElem? (i := 170) rfl)) rfl
theorem wst_X7_isGangway : Cond.static yX7_isGangway ∈ TB := TB_of (tb_3 (List.mem_of_getElem? (i := 171) rfl)) rfl
theorem wcd_X7_isGangway : Cond.code yX7_isGangway cX7_isGangway 1 (some .boolean) ∈ TB := TB_of (tb_3 (List.mem_of_getElem? (i := 172) rfl)) rfl
theorem wml_RX7_41 : Cond.methodLink RX7 41 yX7_in ∈ TB := TB_of (tb_3 (List.mem_of_getElem? (i := 173) rfl)) rfl
theorem wst_X7_in : Cond.static yX7_in ∈ TB := TB_of (tb_3 (List.mem_of_getElem? (i := 174) rfl)) rfl
theorem wcd_X7_in : Cond.code yX7_in cX7_in 3 (some .boolean) ∈ TB := TB_of (tb_3 (List.mem_of_getElem? (i := 175) rfl)) rfl
theorem wfl_RX7_7 : Cond.fieldLink RX7 7 "RoofOrdinancesModel" "s" "[I" ∈ TB := TB_of (tb_3 (List.mem_of_getElem? (i := 176) rfl)) rfl
theorem wfl_RX7_13 : Cond.fieldLink RX7 13 "RoofOrdinancesModel" "aside" "[I" ∈ TB := TB_of (tb_3 (List.mem_of_getElem? (i := 177) rfl)) rfl
theorem wfl_RX7_16 : Cond.fieldLink RX7 16 "RoofOrdinancesModel" "past" "[I" ∈ TB := TB_of (tb_3 (List.mem_of_getElem? (i := 178) rfl)) rfl
theorem wfl_RX7_33 : Cond.fieldLink RX7 33 "RoofOrdinancesModel" "known" "I" ∈ TB := TB_of (tb_3 (List.mem_of_getElem? (i := 179) rfl)) rfl
theorem wfl_RX7_19 : Cond.fieldLink RX7 19 "RoofOrdinancesModel" "kept" "[I" ∈ TB := TB_of (tb_3 (List.mem_of_getElem? (i := 180) rfl)) rfl
theorem wfl_RX7_235 : Cond.fieldLink RX7 235 "RoofOrdinancesModel" "isKept" "Z" ∈ TB := TB_of (tb_3 (List.mem_of_getElem? (i := 181) rfl)) rfl
theorem wfl_RX7_22 : Cond.fieldLink RX7 22 "RoofOrdinancesModel" "pad" "[I" ∈ TB := TB_of (tb_3 (List.mem_of_getElem? (i := 182) rfl)) rfl
theorem wfl_RX7_145 : Cond.fieldLink RX7 145 "RoofOrdinancesModel" "length" "I" ∈ TB := TB_of (tb_3 (List.mem_of_getElem? (i := 183) rfl)) rfl
theorem wfl_RX7_148 : Cond.fieldLink RX7 148 "RoofOrdinancesModel" "spot" "I" ∈ TB := TB_of (tb_3 (List.mem_of_getElem? (i := 184) rfl)) rfl
theorem wfl_RX7_151 : Cond.fieldLink RX7 151 "RoofOrdinancesModel" "isForm" "Z" ∈ TB := TB_of (tb_3 (List.mem_of_getElem? (i := 185) rfl)) rfl
theorem wfl_RX7_166 : Cond.fieldLink RX7 166 "RoofOrdinancesModel" "letter" "I" ∈ TB := TB_of (tb_3 (List.mem_of_getElem? (i := 186) rfl)) rfl
theorem wfl_RX7_169 : Cond.fieldLink RX7 169 "RoofOrdinancesModel" "first" "I" ∈ TB := TB_of (tb_3 (List.mem_of_getElem? (i := 187) rfl)) rfl
theorem wfl_RX7_176 : Cond.fieldLink RX7 176 "RoofOrdinancesModel" "second" "I" ∈ TB := TB_of (tb_3 (List.mem_of_getElem? (i := 188) rfl)) rfl
theorem wfl_RX7_186 : Cond.fieldLink RX7 186 "RoofOrdinancesModel" "isStopped" "Z" ∈ TB := TB_of (tb_3 (List.mem_of_getElem? (i := 189) rfl)) rfl
theorem wfl_RX7_25 : Cond.fieldLink RX7 25 "RoofOrdinancesModel" "stop" "[I" ∈ TB := TB_of (tb_3 (List.mem_of_getElem? (i := 190) rfl)) rfl
theorem wla_RX7_s : Cond.laysFinal RX7 "RoofOrdinancesModel" "s" "[I" ∈ TB := TB_of (tb_3 (List.mem_of_getElem? (i := 191) rfl)) rfl
theorem wla_RX7_aside : Cond.laysFinal RX7 "RoofOrdinancesModel" "aside" "[I" ∈ TB := TB_of (tb_3 (List.mem_of_getElem? (i := 193) rfl)) rfl
theorem wla_RX7_past : Cond.laysFinal RX7 "RoofOrdinancesModel" "past" "[I" ∈ TB := TB_of (tb_3 (List.mem_of_getElem? (i := 195) rfl)) rfl
theorem wla_RX7_known : Cond.lays RX7 "RoofOrdinancesModel" "known" "I" ∈ TB := TB_of (tb_3 (List.mem_of_getElem? (i := 197) rfl)) rfl
theorem wla_RX7_kept : Cond.laysFinal RX7 "RoofOrdinancesModel" "kept" "[I" ∈ TB := TB_of (tb_3 (List.mem_of_getElem? (i := 199) rfl)) rfl
theorem wla_RX7_isKept : Cond.lays RX7 "RoofOrdinancesModel" "isKept" "Z" ∈ TB := TB_of (tb_3 (List.mem_of_getElem? (i := 201) rfl)) rfl
theorem wla_RX7_pad : Cond.laysFinal RX7 "RoofOrdinancesModel" "pad" "[I" ∈ TB := TB_of (tb_3 (List.mem_of_getElem? (i := 203) rfl)) rfl
theorem wla_RX7_length : Cond.lays RX7 "RoofOrdinancesModel" "length" "I" ∈ TB := TB_of (tb_3 (List.mem_of_getElem? (i := 205) rfl)) rfl
theorem wla_RX7_spot : Cond.lays RX7 "RoofOrdinancesModel" "spot" "I" ∈ TB := TB_of (tb_3 (List.mem_of_getElem? (i := 207) rfl)) rfl
theorem wla_RX7_isForm : Cond.lays RX7 "RoofOrdinancesModel" "isForm" "Z" ∈ TB := TB_of (tb_3 (List.mem_of_getElem? (i := 209) rfl)) rfl
theorem wla_RX7_letter : Cond.lays RX7 "RoofOrdinancesModel" "letter" "I" ∈ TB := TB_of (tb_3 (List.mem_of_getElem? (i := 211) rfl)) rfl
theorem wla_RX7_first : Cond.lays RX7 "RoofOrdinancesModel" "first" "I" ∈ TB := TB_of (tb_3 (List.mem_of_getElem? (i := 213) rfl)) rfl
theorem wla_RX7_second : Cond.lays RX7 "RoofOrdinancesModel" "second" "I" ∈ TB := TB_of (tb_3 (List.mem_of_getElem? (i := 215) rfl)) rfl
theorem wla_RX7_isStopped : Cond.lays RX7 "RoofOrdinancesModel" "isStopped" "Z" ∈ TB := TB_of (tb_3 (List.mem_of_getElem? (i := 217) rfl)) rfl
theorem wla_RX7_stop : Cond.laysFinal RX7 "RoofOrdinancesModel" "stop" "[I" ∈ TB := TB_of (tb_3 (List.mem_of_getElem? (i := 219) rfl)) rfl
theorem wml_RL_17 : Cond.methodLink RL 17 yX7_bears ∈ TB := TB_of (tb_3 (List.mem_of_getElem? (i := 222) rfl)) rfl
theorem wim_X7_bears : Cond.instanceMethod yX7_bears ∈ TB := TB_of (tb_3 (List.mem_of_getElem? (i := 223) rfl)) rfl
theorem wse_X7_bears : Cond.selects RX7 yX7_bears yX7_bears ∈ TB := TB_of (tb_3 (List.mem_of_getElem? (i := 224) rfl)) rfl
theorem wcd_X7_bears : Cond.code yX7_bears cX7_bears 4 (some .int) ∈ TB := TB_of (tb_3 (List.mem_of_getElem? (i := 225) rfl)) rfl
theorem wml_RX7_118 : Cond.methodLink RX7 118 yX7_records ∈ TB := TB_of (tb_3 (List.mem_of_getElem? (i := 226) rfl)) rfl
theorem wim_X7_records : Cond.instanceMethod yX7_records ∈ TB := TB_of (tb_3 (List.mem_of_getElem? (i := 228) rfl)) rfl
theorem wcd_X7_records : Cond.code yX7_records cX7_records 2 none ∈ TB := TB_of (tb_3 (List.mem_of_getElem? (i := 229) rfl)) rfl
theorem wml_RX7_37 : Cond.methodLink RX7 37 yX7_copies ∈ TB := TB_of (tb_3 (List.mem_of_getElem? (i := 230) rfl)) rfl
theorem wst_X7_copies : Cond.static yX7_copies ∈ TB := TB_of (tb_3 (List.mem_of_getElem? (i := 231) rfl)) rfl
theorem wcd_X7_copies : Cond.code yX7_copies cX7_copies 5 none ∈ TB := TB_of (tb_3 (List.mem_of_getElem? (i := 232) rfl)) rfl
theorem wml_RX7_52 : Cond.methodLink RX7 52 yX7_of ∈ TB := TB_of (tb_3 (List.mem_of_getElem? (i := 233) rfl)) rfl
theorem wim_X7_of : Cond.instanceMethod yX7_of ∈ TB := TB_of (tb_3 (List.mem_of_getElem? (i := 235) rfl)) rfl
theorem wcd_X7_of : Cond.code yX7_of cX7_of 3 (some .int) ∈ TB := TB_of (tb_3 (List.mem_of_getElem? (i := 236) rfl)) rfl
theorem wml_RX7_91 : Cond.methodLink RX7 91 yX7_lays ∈ TB := TB_of (tb_3 (List.mem_of_getElem? (i := 237) rfl)) rfl
theorem wim_X7_lays : Cond.instanceMethod yX7_lays ∈ TB := TB_of (tb_3 (List.mem_of_getElem? (i := 239) rfl)) rfl
theorem wcd_X7_lays : Cond.code yX7_lays cX7_lays 4 none ∈ TB := TB_of (tb_4 (List.mem_of_getElem? (i := 0) rfl)) rfl
theorem wml_RX7_56 : Cond.methodLink RX7 56 yX7_hasLine ∈ TB := TB_of (tb_4 (List.mem_of_getElem? (i := 1) rfl)) rfl
theorem wim_X7_hasLine : Cond.instanceMethod yX7_hasLine ∈ TB := TB_of (tb_4 (List.mem_of_getElem? (i := 3) rfl)) rfl
theorem wcd_X7_hasLine : Cond.code yX7_hasLine cX7_hasLine 2 (some .boolean) ∈ TB := TB_of (tb_4 (List.mem_of_getElem? (i := 4) rfl)) rfl
theorem wml_RX7_101 : Cond.methodLink RX7 101 yX7_removes ∈ TB := TB_of (tb_4 (List.mem_of_getElem? (i := 5) rfl)) rfl
theorem wim_X7_removes : Cond.instanceMethod yX7_removes ∈ TB := TB_of (tb_4 (List.mem_of_getElem? (i := 7) rfl)) rfl
theorem wcd_X7_removes : Cond.code yX7_removes cX7_removes 2 none ∈ TB := TB_of (tb_4 (List.mem_of_getElem? (i := 8) rfl)) rfl
theorem wml_RL_22 : Cond.methodLink RL 22 yX7_wind ∈ TB := TB_of (tb_4 (List.mem_of_getElem? (i := 9) rfl)) rfl
theorem wim_X7_wind : Cond.instanceMethod yX7_wind ∈ TB := TB_of (tb_4 (List.mem_of_getElem? (i := 10) rfl)) rfl
theorem wse_X7_wind : Cond.selects RX7 yX7_wind yX7_wind ∈ TB := TB_of (tb_4 (List.mem_of_getElem? (i := 11) rfl)) rfl
theorem wcd_X7_wind : Cond.code yX7_wind cX7_wind 3 (some .int) ∈ TB := TB_of (tb_4 (List.mem_of_getElem? (i := 12) rfl)) rfl
theorem wml_RL_26 : Cond.methodLink RL 26 yX7_chimney ∈ TB := TB_of (tb_4 (List.mem_of_getElem? (i := 13) rfl)) rfl
theorem wim_X7_chimney : Cond.instanceMethod yX7_chimney ∈ TB := TB_of (tb_4 (List.mem_of_getElem? (i := 14) rfl)) rfl
theorem wse_X7_chimney : Cond.selects RX7 yX7_chimney yX7_chimney ∈ TB := TB_of (tb_4 (List.mem_of_getElem? (i := 15) rfl)) rfl
theorem wcd_X7_chimney : Cond.code yX7_chimney cX7_chimney 2 (some .int) ∈ TB := TB_of (tb_4 (List.mem_of_getElem? (i := 16) rfl)) rfl
theorem wml_RX7_121 : Cond.methodLink RX7 121 yX7_isRoof ∈ TB := TB_of (tb_4 (List.mem_of_getElem? (i := 17) rfl)) rfl
theorem wst_X7_isRoof : Cond.static yX7_isRoof ∈ TB := TB_of (tb_4 (List.mem_of_getElem? (i := 18) rfl)) rfl
theorem wcd_X7_isRoof : Cond.code yX7_isRoof cX7_isRoof 1 (some .boolean) ∈ TB := TB_of (tb_4 (List.mem_of_getElem? (i := 19) rfl)) rfl
theorem wml_RX7_124 : Cond.methodLink RX7 124 yX7_goChimney ∈ TB := TB_of (tb_4 (List.mem_of_getElem? (i := 20) rfl)) rfl
theorem wim_X7_goChimney : Cond.instanceMethod yX7_goChimney ∈ TB := TB_of (tb_4 (List.mem_of_getElem? (i := 22) rfl)) rfl
theorem wcd_X7_goChimney : Cond.code yX7_goChimney cX7_goChimney 2 (some .int) ∈ TB := TB_of (tb_4 (List.mem_of_getElem? (i := 23) rfl)) rfl
theorem wml_RX7_78 : Cond.methodLink RX7 78 yX7_smoke ∈ TB := TB_of (tb_4 (List.mem_of_getElem? (i := 24) rfl)) rfl
theorem wim_X7_smoke : Cond.instanceMethod yX7_smoke ∈ TB := TB_of (tb_4 (List.mem_of_getElem? (i := 26) rfl)) rfl
theorem wcd_X7_smoke : Cond.code yX7_smoke cX7_smoke 1 (some .int) ∈ TB := TB_of (tb_4 (List.mem_of_getElem? (i := 27) rfl)) rfl
theorem wml_RX7_69 : Cond.methodLink RX7 69 yX7_smokeBy ∈ TB := TB_of (tb_4 (List.mem_of_getElem? (i := 28) rfl)) rfl
theorem wim_X7_smokeBy : Cond.instanceMethod yX7_smokeBy ∈ TB := TB_of (tb_4 (List.mem_of_getElem? (i := 30) rfl)) rfl
theorem wcd_X7_smokeBy : Cond.code yX7_smokeBy cX7_smokeBy 4 (some .int) ∈ TB := TB_of (tb_4 (List.mem_of_getElem? (i := 31) rfl)) rfl
theorem wml_RX7_62 : Cond.methodLink RX7 62 yX7_isIn ∈ TB := TB_of (tb_4 (List.mem_of_getElem? (i := 32) rfl)) rfl
theorem wst_X7_isIn : Cond.static yX7_isIn ∈ TB := TB_of (tb_4 (List.mem_of_getElem? (i := 33) rfl)) rfl
theorem wcd_X7_isIn : Cond.code yX7_isIn cX7_isIn 2 (some .boolean) ∈ TB := TB_of (tb_4 (List.mem_of_getElem? (i := 34) rfl)) rfl
theorem wml_RX7_66 : Cond.methodLink RX7 66 yX7_smokeOf ∈ TB := TB_of (tb_4 (List.mem_of_getElem? (i := 35) rfl)) rfl
theorem wim_X7_smokeOf : Cond.instanceMethod yX7_smokeOf ∈ TB := TB_of (tb_4 (List.mem_of_getElem? (i := 37) rfl)) rfl
theorem wcd_X7_smokeOf : Cond.code yX7_smokeOf cX7_smokeOf 6 (some .int) ∈ TB := TB_of (tb_4 (List.mem_of_getElem? (i := 38) rfl)) rfl
theorem wml_RX7_59 : Cond.methodLink RX7 59 yX7_nextTo ∈ TB := TB_of (tb_4 (List.mem_of_getElem? (i := 39) rfl)) rfl
theorem wst_X7_nextTo : Cond.static yX7_nextTo ∈ TB := TB_of (tb_4 (List.mem_of_getElem? (i := 40) rfl)) rfl
theorem wcd_X7_nextTo : Cond.code yX7_nextTo cX7_nextTo 4 (some .int) ∈ TB := TB_of (tb_4 (List.mem_of_getElem? (i := 41) rfl)) rfl
theorem wml_RX7_112 : Cond.methodLink RX7 112 yX7_ones ∈ TB := TB_of (tb_4 (List.mem_of_getElem? (i := 42) rfl)) rfl
theorem wst_X7_ones : Cond.static yX7_ones ∈ TB := TB_of (tb_4 (List.mem_of_getElem? (i := 43) rfl)) rfl
theorem wcd_X7_ones : Cond.code yX7_ones cX7_ones 3 (some .int) ∈ TB := TB_of (tb_4 (List.mem_of_getElem? (i := 44) rfl)) rfl
theorem wml_RL_30 : Cond.methodLink RL 30 yX7_coop ∈ TB := TB_of (tb_4 (List.mem_of_getElem? (i := 45) rfl)) rfl
theorem wim_X7_coop : Cond.instanceMethod yX7_coop ∈ TB := TB_of (tb_4 (List.mem_of_getElem? (i := 46) rfl)) rfl
theorem wse_X7_coop : Cond.selects RX7 yX7_coop yX7_coop ∈ TB := TB_of (tb_4 (List.mem_of_getElem? (i := 47) rfl)) rfl
theorem wcd_X7_coop : Cond.code yX7_coop cX7_coop 2 (some .int) ∈ TB := TB_of (tb_4 (List.mem_of_getElem? (i := 48) rfl)) rfl
theorem wml_RL_35 : Cond.methodLink RL 35 yX7_owner ∈ TB := TB_of (tb_4 (List.mem_of_getElem? (i := 49) rfl)) rfl
theorem wim_X7_owner : Cond.instanceMethod yX7_owner ∈ TB := TB_of (tb_4 (List.mem_of_getElem? (i := 50) rfl)) rfl
theorem wse_X7_owner : Cond.selects RX7 yX7_owner yX7_owner ∈ TB := TB_of (tb_4 (List.mem_of_getElem? (i := 51) rfl)) rfl
theorem wcd_X7_owner : Cond.code yX7_owner cX7_owner 6 (some .int) ∈ TB := TB_of (tb_4 (List.mem_of_getElem? (i := 52) rfl)) rfl
theorem wml_RX7_127 : Cond.methodLink RX7 127 yX7_isOwner ∈ TB := TB_of (tb_4 (List.mem_of_getElem? (i := 53) rfl)) rfl
theorem wst_X7_isOwner : Cond.static yX7_isOwner ∈ TB := TB_of (tb_4 (List.mem_of_getElem? (i := 54) rfl)) rfl
theorem wcd_X7_isOwner : Cond.code yX7_isOwner cX7_isOwner 1 (some .boolean) ∈ TB := TB_of (tb_4 (List.mem_of_getElem? (i := 55) rfl)) rfl
theorem wml_RX7_72 : Cond.methodLink RX7 72 yX7_ofOwner ∈ TB := TB_of (tb_4 (List.mem_of_getElem? (i := 56) rfl)) rfl
theorem wim_X7_ofOwner : Cond.instanceMethod yX7_ofOwner ∈ TB := TB_of (tb_4 (List.mem_of_getElem? (i := 58) rfl)) rfl
theorem wcd_X7_ofOwner : Cond.code yX7_ofOwner cX7_ofOwner 3 (some .int) ∈ TB := TB_of (tb_4 (List.mem_of_getElem? (i := 59) rfl)) rfl
theorem wml_RL_39 : Cond.methodLink RL 39 yX7_reach ∈ TB := TB_of (tb_4 (List.mem_of_getElem? (i := 60) rfl)) rfl
theorem wim_X7_reach : Cond.instanceMethod yX7_reach ∈ TB := TB_of (tb_4 (List.mem_of_getElem? (i := 61) rfl)) rfl
theorem wse_X7_reach : Cond.selects RX7 yX7_reach yX7_reach ∈ TB := TB_of (tb_4 (List.mem_of_getElem? (i := 62) rfl)) rfl
theorem wcd_X7_reach : Cond.code yX7_reach cX7_reach 3 (some .int) ∈ TB := TB_of (tb_4 (List.mem_of_getElem? (i := 63) rfl)) rfl
theorem wml_RL_43 : Cond.methodLink RL 43 yX7_hang ∈ TB := TB_of (tb_4 (List.mem_of_getElem? (i := 64) rfl)) rfl
theorem wim_X7_hang : Cond.instanceMethod yX7_hang ∈ TB := TB_of (tb_4 (List.mem_of_getElem? (i := 65) rfl)) rfl
theorem wse_X7_hang : Cond.selects RX7 yX7_hang yX7_hang ∈ TB := TB_of (tb_4 (List.mem_of_getElem? (i := 66) rfl)) rfl
theorem wcd_X7_hang : Cond.code yX7_hang cX7_hang 3 (some .int) ∈ TB := TB_of (tb_4 (List.mem_of_getElem? (i := 67) rfl)) rfl
theorem wml_RX7_130 : Cond.methodLink RX7 130 yX7_goHang ∈ TB := TB_of (tb_4 (List.mem_of_getElem? (i := 68) rfl)) rfl
theorem wim_X7_goHang : Cond.instanceMethod yX7_goHang ∈ TB := TB_of (tb_4 (List.mem_of_getElem? (i := 70) rfl)) rfl
theorem wcd_X7_goHang : Cond.code yX7_goHang cX7_goHang 4 (some .int) ∈ TB := TB_of (tb_4 (List.mem_of_getElem? (i := 71) rfl)) rfl
theorem wml_RX7_95 : Cond.methodLink RX7 95 yX7_reasonToHang ∈ TB := TB_of (tb_4 (List.mem_of_getElem? (i := 72) rfl)) rfl
theorem wim_X7_reasonToHang : Cond.instanceMethod yX7_reasonToHang ∈ TB := TB_of (tb_4 (List.mem_of_getElem? (i := 74) rfl)) rfl
theorem wcd_X7_reasonToHang : Cond.code yX7_reasonToHang cX7_reasonToHang 3 (some .int) ∈ TB := TB_of (tb_4 (List.mem_of_getElem? (i := 75) rfl)) rfl
theorem wml_RX7_75 : Cond.methodLink RX7 75 yX7_bothOf ∈ TB := TB_of (tb_4 (List.mem_of_getElem? (i := 76) rfl)) rfl
theorem wim_X7_bothOf : Cond.instanceMethod yX7_bothOf ∈ TB := TB_of (tb_4 (List.mem_of_getElem? (i := 78) rfl)) rfl
theorem wcd_X7_bothOf : Cond.code yX7_bothOf cX7_bothOf 2 (some .int) ∈ TB := TB_of (tb_4 (List.mem_of_getElem? (i := 79) rfl)) rfl
theorem wml_RX7_45 : Cond.methodLink RX7 45 yX7_lesserOf ∈ TB := TB_of (tb_4 (List.mem_of_getElem? (i := 80) rfl)) rfl
theorem wst_X7_lesserOf : Cond.static yX7_lesserOf ∈ TB := TB_of (tb_4 (List.mem_of_getElem? (i := 81) rfl)) rfl
theorem wcd_X7_lesserOf : Cond.code yX7_lesserOf cX7_lesserOf 1 (some .int) ∈ TB := TB_of (tb_4 (List.mem_of_getElem? (i := 82) rfl)) rfl
theorem wml_RX7_49 : Cond.methodLink RX7 49 yX7_greaterOf ∈ TB := TB_of (tb_4 (List.mem_of_getElem? (i := 83) rfl)) rfl
theorem wst_X7_greaterOf : Cond.static yX7_greaterOf ∈ TB := TB_of (tb_4 (List.mem_of_getElem? (i := 84) rfl)) rfl
theorem wcd_X7_greaterOf : Cond.code yX7_greaterOf cX7_greaterOf 1 (some .int) ∈ TB := TB_of (tb_4 (List.mem_of_getElem? (i := 85) rfl)) rfl
theorem wml_RX7_82 : Cond.methodLink RX7 82 yX7_nearCoops ∈ TB := TB_of (tb_4 (List.mem_of_getElem? (i := 86) rfl)) rfl
theorem wim_X7_nearCoops : Cond.instanceMethod yX7_nearCoops ∈ TB := TB_of (tb_4 (List.mem_of_getElem? (i := 88) rfl)) rfl
theorem wcd_X7_nearCoops : Cond.code yX7_nearCoops cX7_nearCoops 5 (some .int) ∈ TB := TB_of (tb_4 (List.mem_of_getElem? (i := 89) rfl)) rfl
theorem wml_RX7_98 : Cond.methodLink RX7 98 yX7_refuses ∈ TB := TB_of (tb_4 (List.mem_of_getElem? (i := 90) rfl)) rfl
theorem wim_X7_refuses : Cond.instanceMethod yX7_refuses ∈ TB := TB_of (tb_4 (List.mem_of_getElem? (i := 92) rfl)) rfl
theorem wcd_X7_refuses : Cond.code yX7_refuses cX7_refuses 2 (some .int) ∈ TB := TB_of (tb_4 (List.mem_of_getElem? (i := 93) rfl)) rfl
theorem wml_RX7_105 : Cond.methodLink RX7 105 yX7_linesNow ∈ TB := TB_of (tb_4 (List.mem_of_getElem? (i := 94) rfl)) rfl
theorem wim_X7_linesNow : Cond.instanceMethod yX7_linesNow ∈ TB := TB_of (tb_4 (List.mem_of_getElem? (i := 96) rfl)) rfl
theorem wcd_X7_linesNow : Cond.code yX7_linesNow cX7_linesNow 3 (some .int) ∈ TB := TB_of (tb_4 (List.mem_of_getElem? (i := 97) rfl)) rfl
theorem wml_RL_47 : Cond.methodLink RL 47 yX7_take ∈ TB := TB_of (tb_4 (List.mem_of_getElem? (i := 98) rfl)) rfl
theorem wim_X7_take : Cond.instanceMethod yX7_take ∈ TB := TB_of (tb_4 (List.mem_of_getElem? (i := 99) rfl)) rfl
theorem wse_X7_take : Cond.selects RX7 yX7_take yX7_take ∈ TB := TB_of (tb_4 (List.mem_of_getElem? (i := 100) rfl)) rfl
theorem wcd_X7_take : Cond.code yX7_take cX7_take 3 (some .int) ∈ TB := TB_of (tb_4 (List.mem_of_getElem? (i := 101) rfl)) rfl
theorem wml_RX7_133 : Cond.methodLink RX7 133 yX7_goTake ∈ TB := TB_of (tb_4 (List.mem_of_getElem? (i := 102) rfl)) rfl
theorem wim_X7_goTake : Cond.instanceMethod yX7_goTake ∈ TB := TB_of (tb_4 (List.mem_of_getElem? (i := 104) rfl)) rfl
theorem wcd_X7_goTake : Cond.code yX7_goTake cX7_goTake 4 (some .int) ∈ TB := TB_of (tb_4 (List.mem_of_getElem? (i := 105) rfl)) rfl
theorem wml_RL_51 : Cond.methodLink RL 51 yX7_walk ∈ TB := TB_of (tb_4 (List.mem_of_getElem? (i := 106) rfl)) rfl
theorem wim_X7_walk : Cond.instanceMethod yX7_walk ∈ TB := TB_of (tb_4 (List.mem_of_getElem? (i := 107) rfl)) rfl
theorem wse_X7_walk : Cond.selects RX7 yX7_walk yX7_walk ∈ TB := TB_of (tb_4 (List.mem_of_getElem? (i := 108) rfl)) rfl
theorem wcd_X7_walk : Cond.code yX7_walk cX7_walk 3 (some .int) ∈ TB := TB_of (tb_4 (List.mem_of_getElem? (i := 109) rfl)) rfl
theorem wml_RX7_136 : Cond.methodLink RX7 136 yX7_isOfRoof ∈ TB := TB_of (tb_4 (List.mem_of_getElem? (i := 110) rfl)) rfl
theorem wst_X7_isOfRoof : Cond.static yX7_isOfRoof ∈ TB := TB_of (tb_4 (List.mem_of_getElem? (i := 111) rfl)) rfl
theorem wcd_X7_isOfRoof : Cond.code yX7_isOfRoof cX7_isOfRoof 2 (some .boolean) ∈ TB := TB_of (tb_4 (List.mem_of_getElem? (i := 112) rfl)) rfl
theorem wml_RX7_139 : Cond.methodLink RX7 139 yX7_goWalk ∈ TB := TB_of (tb_4 (List.mem_of_getElem? (i := 113) rfl)) rfl
theorem wim_X7_goWalk : Cond.instanceMethod yX7_goWalk ∈ TB := TB_of (tb_4 (List.mem_of_getElem? (i := 115) rfl)) rfl
theorem wcd_X7_goWalk : Cond.code yX7_goWalk cX7_goWalk 5 (some .int) ∈ TB := TB_of (tb_4 (List.mem_of_getElem? (i := 116) rfl)) rfl
theorem wml_RX7_108 : Cond.methodLink RX7 108 yX7_reasonToWalk ∈ TB := TB_of (tb_4 (List.mem_of_getElem? (i := 117) rfl)) rfl
theorem wim_X7_reasonToWalk : Cond.instanceMethod yX7_reasonToWalk ∈ TB := TB_of (tb_4 (List.mem_of_getElem? (i := 119) rfl)) rfl
theorem wcd_X7_reasonToWalk : Cond.code yX7_reasonToWalk cX7_reasonToWalk 4 (some .int) ∈ TB := TB_of (tb_4 (List.mem_of_getElem? (i := 120) rfl)) rfl
theorem wml_RX7_85 : Cond.methodLink RX7 85 yX7_otherOf ∈ TB := TB_of (tb_4 (List.mem_of_getElem? (i := 121) rfl)) rfl
theorem wst_X7_otherOf : Cond.static yX7_otherOf ∈ TB := TB_of (tb_4 (List.mem_of_getElem? (i := 122) rfl)) rfl
theorem wcd_X7_otherOf : Cond.code yX7_otherOf cX7_otherOf 2 (some .int) ∈ TB := TB_of (tb_4 (List.mem_of_getElem? (i := 123) rfl)) rfl
theorem wml_RL_56 : Cond.methodLink RL 56 yX7_day ∈ TB := TB_of (tb_4 (List.mem_of_getElem? (i := 124) rfl)) rfl
theorem wim_X7_day : Cond.instanceMethod yX7_day ∈ TB := TB_of (tb_4 (List.mem_of_getElem? (i := 125) rfl)) rfl
theorem wse_X7_day : Cond.selects RX7 yX7_day yX7_day ∈ TB := TB_of (tb_4 (List.mem_of_getElem? (i := 126) rfl)) rfl
theorem wcd_X7_day : Cond.code yX7_day cX7_day 1 (some .int) ∈ TB := TB_of (tb_4 (List.mem_of_getElem? (i := 127) rfl)) rfl
theorem wml_RX7_142 : Cond.methodLink RX7 142 yX7_goDay ∈ TB := TB_of (tb_4 (List.mem_of_getElem? (i := 128) rfl)) rfl
theorem wim_X7_goDay : Cond.instanceMethod yX7_goDay ∈ TB := TB_of (tb_4 (List.mem_of_getElem? (i := 130) rfl)) rfl
theorem wcd_X7_goDay : Cond.code yX7_goDay cX7_goDay 4 (some .int) ∈ TB := TB_of (tb_4 (List.mem_of_getElem? (i := 131) rfl)) rfl
theorem wml_RX7_115 : Cond.methodLink RX7 115 yX7_cleanNow ∈ TB := TB_of (tb_4 (List.mem_of_getElem? (i := 132) rfl)) rfl
theorem wim_X7_cleanNow : Cond.instanceMethod yX7_cleanNow ∈ TB := TB_of (tb_4 (List.mem_of_getElem? (i := 134) rfl)) rfl
theorem wcd_X7_cleanNow : Cond.code yX7_cleanNow cX7_cleanNow 3 (some .int) ∈ TB := TB_of (tb_4 (List.mem_of_getElem? (i := 135) rfl)) rfl
theorem wml_RX7_88 : Cond.methodLink RX7 88 yX7_isClean ∈ TB := TB_of (tb_4 (List.mem_of_getElem? (i := 136) rfl)) rfl
theorem wim_X7_isClean : Cond.instanceMethod yX7_isClean ∈ TB := TB_of (tb_4 (List.mem_of_getElem? (i := 138) rfl)) rfl
theorem wcd_X7_isClean : Cond.code yX7_isClean cX7_isClean 2 (some .boolean) ∈ TB := TB_of (tb_4 (List.mem_of_getElem? (i := 139) rfl)) rfl
theorem wml_RL_60 : Cond.methodLink RL 60 yX7_append ∈ TB := TB_of (tb_4 (List.mem_of_getElem? (i := 140) rfl)) rfl
theorem wim_X7_append : Cond.instanceMethod yX7_append ∈ TB := TB_of (tb_4 (List.mem_of_getElem? (i := 141) rfl)) rfl
theorem wse_X7_append : Cond.selects RX7 yX7_append yX7_append ∈ TB := TB_of (tb_4 (List.mem_of_getElem? (i := 142) rfl)) rfl
theorem wcd_X7_append : Cond.code yX7_append cX7_append 2 (some .int) ∈ TB := TB_of (tb_4 (List.mem_of_getElem? (i := 143) rfl)) rfl
theorem wml_RL_64 : Cond.methodLink RL 64 yX7_clear ∈ TB := TB_of (tb_4 (List.mem_of_getElem? (i := 144) rfl)) rfl
theorem wim_X7_clear : Cond.instanceMethod yX7_clear ∈ TB := TB_of (tb_4 (List.mem_of_getElem? (i := 145) rfl)) rfl
theorem wse_X7_clear : Cond.selects RX7 yX7_clear yX7_clear ∈ TB := TB_of (tb_4 (List.mem_of_getElem? (i := 146) rfl)) rfl
theorem wcd_X7_clear : Cond.code yX7_clear cX7_clear 2 (some .int) ∈ TB := TB_of (tb_4 (List.mem_of_getElem? (i := 147) rfl)) rfl
theorem wml_RL_68 : Cond.methodLink RL 68 yX7_fault ∈ TB := TB_of (tb_4 (List.mem_of_getElem? (i := 148) rfl)) rfl
theorem wim_X7_fault : Cond.instanceMethod yX7_fault ∈ TB := TB_of (tb_4 (List.mem_of_getElem? (i := 149) rfl)) rfl
theorem wse_X7_fault : Cond.selects RX7 yX7_fault yX7_fault ∈ TB := TB_of (tb_4 (List.mem_of_getElem? (i := 150) rfl)) rfl
theorem wcd_X7_fault : Cond.code yX7_fault cX7_fault 1 (some .int) ∈ TB := TB_of (tb_4 (List.mem_of_getElem? (i := 151) rfl)) rfl
theorem wml_RX7_182 : Cond.methodLink RX7 182 yX7_isText ∈ TB := TB_of (tb_4 (List.mem_of_getElem? (i := 152) rfl)) rfl
theorem wim_X7_isText : Cond.instanceMethod yX7_isText ∈ TB := TB_of (tb_4 (List.mem_of_getElem? (i := 154) rfl)) rfl
theorem wcd_X7_isText : Cond.code yX7_isText cX7_isText 1 (some .boolean) ∈ TB := TB_of (tb_4 (List.mem_of_getElem? (i := 155) rfl)) rfl
theorem wml_RX7_179 : Cond.methodLink RX7 179 yX7_takesOrder ∈ TB := TB_of (tb_4 (List.mem_of_getElem? (i := 156) rfl)) rfl
theorem wim_X7_takesOrder : Cond.instanceMethod yX7_takesOrder ∈ TB := TB_of (tb_4 (List.mem_of_getElem? (i := 158) rfl)) rfl
theorem wcd_X7_takesOrder : Cond.code yX7_takesOrder cX7_takesOrder 2 none ∈ TB := TB_of (tb_4 (List.mem_of_getElem? (i := 159) rfl)) rfl
theorem wml_RX7_155 : Cond.methodLink RX7 155 yX7_here ∈ TB := TB_of (tb_4 (List.mem_of_getElem? (i := 160) rfl)) rfl
theorem wim_X7_here : Cond.instanceMethod yX7_here ∈ TB := TB_of (tb_4 (List.mem_of_getElem? (i := 162) rfl)) rfl
theorem wcd_X7_here : Cond.code yX7_here cX7_here 1 (some .int) ∈ TB := TB_of (tb_4 (List.mem_of_getElem? (i := 163) rfl)) rfl
theorem wml_RX7_162 : Cond.methodLink RX7 162 yX7_takes ∈ TB := TB_of (tb_4 (List.mem_of_getElem? (i := 164) rfl)) rfl
theorem wim_X7_takes : Cond.instanceMethod yX7_takes ∈ TB := TB_of (tb_4 (List.mem_of_getElem? (i := 166) rfl)) rfl
theorem wcd_X7_takes : Cond.code yX7_takes cX7_takes 2 none ∈ TB := TB_of (tb_4 (List.mem_of_getElem? (i := 167) rfl)) rfl
theorem wml_RX7_172 : Cond.methodLink RX7 172 yX7_takesNumber ∈ TB := TB_of (tb_4 (List.mem_of_getElem? (i := 168) rfl)) rfl
theorem wim_X7_takesNumber : Cond.instanceMethod yX7_takesNumber ∈ TB := TB_of (tb_4 (List.mem_of_getElem? (i := 170) rfl)) rfl
theorem wcd_X7_takesNumber : Cond.code yX7_takesNumber cX7_takesNumber 4 (some .int) ∈ TB := TB_of (tb_4 (List.mem_of_getElem? (i := 171) rfl)) rfl
theorem wml_RX7_158 : Cond.methodLink RX7 158 yX7_isNumber ∈ TB := TB_of (tb_4 (List.mem_of_getElem? (i := 172) rfl)) rfl
theorem wst_X7_isNumber : Cond.static yX7_isNumber ∈ TB := TB_of (tb_4 (List.mem_of_getElem? (i := 173) rfl)) rfl
theorem wcd_X7_isNumber : Cond.code yX7_isNumber cX7_isNumber 2 (some .boolean) ∈ TB := TB_of (tb_4 (List.mem_of_getElem? (i := 174) rfl)) rfl
theorem wml_RL_72 : Cond.methodLink RL 72 yX7_run ∈ TB := TB_of (tb_4 (List.mem_of_getElem? (i := 175) rfl)) rfl
theorem wim_X7_run : Cond.instanceMethod yX7_run ∈ TB := TB_of (tb_4 (List.mem_of_getElem? (i := 176) rfl)) rfl
theorem wse_X7_run : Cond.selects RX7 yX7_run yX7_run ∈ TB := TB_of (tb_4 (List.mem_of_getElem? (i := 177) rfl)) rfl
theorem wcd_X7_run : Cond.code yX7_run cX7_run 4 (some .int) ∈ TB := TB_of (tb_4 (List.mem_of_getElem? (i := 178) rfl)) rfl
theorem wml_RX7_189 : Cond.methodLink RX7 189 yX7_doesOrder ∈ TB := TB_of (tb_4 (List.mem_of_getElem? (i := 179) rfl)) rfl
theorem wim_X7_doesOrder : Cond.instanceMethod yX7_doesOrder ∈ TB := TB_of (tb_4 (List.mem_of_getElem? (i := 181) rfl)) rfl
theorem wcd_X7_doesOrder : Cond.code yX7_doesOrder cX7_doesOrder 1 (some .int) ∈ TB := TB_of (tb_4 (List.mem_of_getElem? (i := 182) rfl)) rfl
theorem wml_RL_76 : Cond.methodLink RL 76 yX7_why ∈ TB := TB_of (tb_4 (List.mem_of_getElem? (i := 183) rfl)) rfl
theorem wim_X7_why : Cond.instanceMethod yX7_why ∈ TB := TB_of (tb_4 (List.mem_of_getElem? (i := 184) rfl)) rfl
theorem wse_X7_why : Cond.selects RX7 yX7_why yX7_why ∈ TB := TB_of (tb_4 (List.mem_of_getElem? (i := 185) rfl)) rfl
theorem wcd_X7_why : Cond.code yX7_why cX7_why 2 (some .int) ∈ TB := TB_of (tb_4 (List.mem_of_getElem? (i := 186) rfl)) rfl
theorem wml_RL_80 : Cond.methodLink RL 80 yX7_roof ∈ TB := TB_of (tb_4 (List.mem_of_getElem? (i := 187) rfl)) rfl
theorem wim_X7_roof : Cond.instanceMethod yX7_roof ∈ TB := TB_of (tb_4 (List.mem_of_getElem? (i := 188) rfl)) rfl
theorem wse_X7_roof : Cond.selects RX7 yX7_roof yX7_roof ∈ TB := TB_of (tb_4 (List.mem_of_getElem? (i := 189) rfl)) rfl
theorem wcd_X7_roof : Cond.code yX7_roof cX7_roof 3 (some .int) ∈ TB := TB_of (tb_4 (List.mem_of_getElem? (i := 190) rfl)) rfl
theorem wml_RX7_192 : Cond.methodLink RX7 192 yX7_chimneysOver ∈ TB := TB_of (tb_4 (List.mem_of_getElem? (i := 191) rfl)) rfl
theorem wim_X7_chimneysOver : Cond.instanceMethod yX7_chimneysOver ∈ TB := TB_of (tb_4 (List.mem_of_getElem? (i := 193) rfl)) rfl
theorem wcd_X7_chimneysOver : Cond.code yX7_chimneysOver cX7_chimneysOver 4 (some .int) ∈ TB := TB_of (tb_4 (List.mem_of_getElem? (i := 194) rfl)) rfl
theorem wml_RX7_195 : Cond.methodLink RX7 195 yX7_ownersAt ∈ TB := TB_of (tb_4 (List.mem_of_getElem? (i := 195) rfl)) rfl
theorem wim_X7_ownersAt : Cond.instanceMethod yX7_ownersAt ∈ TB := TB_of (tb_4 (List.mem_of_getElem? (i := 197) rfl)) rfl
theorem wcd_X7_ownersAt : Cond.code yX7_ownersAt cX7_ownersAt 4 (some .int) ∈ TB := TB_of (tb_4 (List.mem_of_getElem? (i := 198) rfl)) rfl
theorem wml_RX7_198 : Cond.methodLink RX7 198 yX7_strongAt ∈ TB := TB_of (tb_4 (List.mem_of_getElem? (i := 199) rfl)) rfl
theorem wim_X7_strongAt : Cond.instanceMethod yX7_strongAt ∈ TB := TB_of (tb_4 (List.mem_of_getElem? (i := 201) rfl)) rfl
theorem wcd_X7_strongAt : Cond.code yX7_strongAt cX7_strongAt 4 (some .int) ∈ TB := TB_of (tb_4 (List.mem_of_getElem? (i := 202) rfl)) rfl
theorem wml_RX7_201 : Cond.methodLink RX7 201 yX7_linesAt ∈ TB := TB_of (tb_4 (List.mem_of_getElem? (i := 203) rfl)) rfl
theorem wim_X7_linesAt : Cond.instanceMethod yX7_linesAt ∈ TB := TB_of (tb_4 (List.mem_of_getElem? (i := 205) rfl)) rfl
theorem wcd_X7_linesAt : Cond.code yX7_linesAt cX7_linesAt 4 (some .int) ∈ TB := TB_of (tb_4 (List.mem_of_getElem? (i := 206) rfl)) rfl
theorem wml_RX7_204 : Cond.methodLink RX7 204 yX7_comeTo ∈ TB := TB_of (tb_4 (List.mem_of_getElem? (i := 207) rfl)) rfl
theorem wim_X7_comeTo : Cond.instanceMethod yX7_comeTo ∈ TB := TB_of (tb_4 (List.mem_of_getElem? (i := 209) rfl)) rfl
theorem wcd_X7_comeTo : Cond.code yX7_comeTo cX7_comeTo 8 (some .int) ∈ TB := TB_of (tb_4 (List.mem_of_getElem? (i := 210) rfl)) rfl
theorem wml_RL_84 : Cond.methodLink RL 84 yX7_gangway ∈ TB := TB_of (tb_4 (List.mem_of_getElem? (i := 211) rfl)) rfl
theorem wim_X7_gangway : Cond.instanceMethod yX7_gangway ∈ TB := TB_of (tb_4 (List.mem_of_getElem? (i := 212) rfl)) rfl
theorem wse_X7_gangway : Cond.selects RX7 yX7_gangway yX7_gangway ∈ TB := TB_of (tb_4 (List.mem_of_getElem? (i := 213) rfl)) rfl
theorem wcd_X7_gangway : Cond.code yX7_gangway cX7_gangway 3 (some .int) ∈ TB := TB_of (tb_4 (List.mem_of_getElem? (i := 214) rfl)) rfl
theorem wml_RL_88 : Cond.methodLink RL 88 yX7_ownerOf ∈ TB := TB_of (tb_4 (List.mem_of_getElem? (i := 215) rfl)) rfl
theorem wim_X7_ownerOf : Cond.instanceMethod yX7_ownerOf ∈ TB := TB_of (tb_4 (List.mem_of_getElem? (i := 216) rfl)) rfl
theorem wse_X7_ownerOf : Cond.selects RX7 yX7_ownerOf yX7_ownerOf ∈ TB := TB_of (tb_4 (List.mem_of_getElem? (i := 217) rfl)) rfl
theorem wcd_X7_ownerOf : Cond.code yX7_ownerOf cX7_ownerOf 3 (some .int) ∈ TB := TB_of (tb_4 (List.mem_of_getElem? (i := 218) rfl)) rfl
theorem wml_RX7_207 : Cond.methodLink RX7 207 yX7_linesOf ∈ TB := TB_of (tb_4 (List.mem_of_getElem? (i := 219) rfl)) rfl
theorem wim_X7_linesOf : Cond.instanceMethod yX7_linesOf ∈ TB := TB_of (tb_4 (List.mem_of_getElem? (i := 221) rfl)) rfl
theorem wcd_X7_linesOf : Cond.code yX7_linesOf cX7_linesOf 5 (some .int) ∈ TB := TB_of (tb_4 (List.mem_of_getElem? (i := 222) rfl)) rfl
theorem wml_RX7_211 : Cond.methodLink RX7 211 yX7_walksNow ∈ TB := TB_of (tb_4 (List.mem_of_getElem? (i := 223) rfl)) rfl
theorem wim_X7_walksNow : Cond.instanceMethod yX7_walksNow ∈ TB := TB_of (tb_4 (List.mem_of_getElem? (i := 225) rfl)) rfl
theorem wcd_X7_walksNow : Cond.code yX7_walksNow cX7_walksNow 5 (some .int) ∈ TB := TB_of (tb_4 (List.mem_of_getElem? (i := 226) rfl)) rfl
theorem wml_RX7_214 : Cond.methodLink RX7 214 yX7_hangsNow ∈ TB := TB_of (tb_4 (List.mem_of_getElem? (i := 227) rfl)) rfl
theorem wim_X7_hangsNow : Cond.instanceMethod yX7_hangsNow ∈ TB := TB_of (tb_4 (List.mem_of_getElem? (i := 229) rfl)) rfl
theorem wcd_X7_hangsNow : Cond.code yX7_hangsNow cX7_hangsNow 4 (some .int) ∈ TB := TB_of (tb_4 (List.mem_of_getElem? (i := 230) rfl)) rfl
theorem wml_RL_92 : Cond.methodLink RL 92 yX7_whyNotHang ∈ TB := TB_of (tb_4 (List.mem_of_getElem? (i := 231) rfl)) rfl
theorem wim_X7_whyNotHang : Cond.instanceMethod yX7_whyNotHang ∈ TB := TB_of (tb_4 (List.mem_of_getElem? (i := 232) rfl)) rfl
theorem wse_X7_whyNotHang : Cond.selects RX7 yX7_whyNotHang yX7_whyNotHang ∈ TB := TB_of (tb_4 (List.mem_of_getElem? (i := 233) rfl)) rfl
theorem wcd_X7_whyNotHang : Cond.code yX7_whyNotHang cX7_whyNotHang 3 (some .int) ∈ TB := TB_of (tb_4 (List.mem_of_getElem? (i := 234) rfl)) rfl
theorem wml_RL_97 : Cond.methodLink RL 97 yX7_strongest ∈ TB := TB_of (tb_4 (List.mem_of_getElem? (i := 235) rfl)) rfl
theorem wim_X7_strongest : Cond.instanceMethod yX7_strongest ∈ TB := TB_of (tb_4 (List.mem_of_getElem? (i := 236) rfl)) rfl
theorem wse_X7_strongest : Cond.selects RX7 yX7_strongest yX7_strongest ∈ TB := TB_of (tb_4 (List.mem_of_getElem? (i := 237) rfl)) rfl
theorem wcd_X7_strongest : Cond.code yX7_strongest cX7_strongest 4 (some .int) ∈ TB := TB_of (tb_4 (List.mem_of_getElem? (i := 238) rfl)) rfl
theorem wml_RX7_217 : Cond.methodLink RX7 217 yX7_strengthOf ∈ TB := TB_of (tb_4 (List.mem_of_getElem? (i := 239) rfl)) rfl
theorem wim_X7_strengthOf : Cond.instanceMethod yX7_strengthOf ∈ TB := TB_of (tb_5 (List.mem_of_getElem? (i := 1) rfl)) rfl
theorem wcd_X7_strengthOf : Cond.code yX7_strengthOf cX7_strengthOf 5 (some .int) ∈ TB := TB_of (tb_5 (List.mem_of_getElem? (i := 2) rfl)) rfl
theorem wml_RL_101 : Cond.methodLink RL 101 yX7_steps ∈ TB := TB_of (tb_5 (List.mem_of_getElem? (i := 3) rfl)) rfl
theorem wim_X7_steps : Cond.instanceMethod yX7_steps ∈ TB := TB_of (tb_5 (List.mem_of_getElem? (i := 4) rfl)) rfl
theorem wse_X7_steps : Cond.selects RX7 yX7_steps yX7_steps ∈ TB := TB_of (tb_5 (List.mem_of_getElem? (i := 5) rfl)) rfl
theorem wcd_X7_steps : Cond.code yX7_steps cX7_steps 3 (some .int) ∈ TB := TB_of (tb_5 (List.mem_of_getElem? (i := 6) rfl)) rfl
theorem wml_RX7_223 : Cond.methodLink RX7 223 yX7_stepsOf ∈ TB := TB_of (tb_5 (List.mem_of_getElem? (i := 7) rfl)) rfl
theorem wim_X7_stepsOf : Cond.instanceMethod yX7_stepsOf ∈ TB := TB_of (tb_5 (List.mem_of_getElem? (i := 9) rfl)) rfl
theorem wcd_X7_stepsOf : Cond.code yX7_stepsOf cX7_stepsOf 5 (some .int) ∈ TB := TB_of (tb_5 (List.mem_of_getElem? (i := 10) rfl)) rfl
theorem wml_RX7_220 : Cond.methodLink RX7 220 yX7_furtherFrom ∈ TB := TB_of (tb_5 (List.mem_of_getElem? (i := 11) rfl)) rfl
theorem wim_X7_furtherFrom : Cond.instanceMethod yX7_furtherFrom ∈ TB := TB_of (tb_5 (List.mem_of_getElem? (i := 13) rfl)) rfl
theorem wcd_X7_furtherFrom : Cond.code yX7_furtherFrom cX7_furtherFrom 7 (some .int) ∈ TB := TB_of (tb_5 (List.mem_of_getElem? (i := 14) rfl)) rfl
theorem wml_RL_105 : Cond.methodLink RL 105 yX7_count ∈ TB := TB_of (tb_5 (List.mem_of_getElem? (i := 15) rfl)) rfl
theorem wim_X7_count : Cond.instanceMethod yX7_count ∈ TB := TB_of (tb_5 (List.mem_of_getElem? (i := 16) rfl)) rfl
theorem wse_X7_count : Cond.selects RX7 yX7_count yX7_count ∈ TB := TB_of (tb_5 (List.mem_of_getElem? (i := 17) rfl)) rfl
theorem wcd_X7_count : Cond.code yX7_count cX7_count 2 (some .int) ∈ TB := TB_of (tb_5 (List.mem_of_getElem? (i := 18) rfl)) rfl
theorem wml_RX7_226 : Cond.methodLink RX7 226 yX7_sumOf ∈ TB := TB_of (tb_5 (List.mem_of_getElem? (i := 19) rfl)) rfl
theorem wim_X7_sumOf : Cond.instanceMethod yX7_sumOf ∈ TB := TB_of (tb_5 (List.mem_of_getElem? (i := 21) rfl)) rfl
theorem wcd_X7_sumOf : Cond.code yX7_sumOf cX7_sumOf 4 (some .int) ∈ TB := TB_of (tb_5 (List.mem_of_getElem? (i := 22) rfl)) rfl
theorem wml_RX7_229 : Cond.methodLink RX7 229 yX7_smokedBy ∈ TB := TB_of (tb_5 (List.mem_of_getElem? (i := 23) rfl)) rfl
theorem wim_X7_smokedBy : Cond.instanceMethod yX7_smokedBy ∈ TB := TB_of (tb_5 (List.mem_of_getElem? (i := 25) rfl)) rfl
theorem wcd_X7_smokedBy : Cond.code yX7_smokedBy cX7_smokedBy 5 (some .int) ∈ TB := TB_of (tb_5 (List.mem_of_getElem? (i := 26) rfl)) rfl
theorem wml_RL_110 : Cond.methodLink RL 110 yX7_cleanness ∈ TB := TB_of (tb_5 (List.mem_of_getElem? (i := 27) rfl)) rfl
theorem wim_X7_cleanness : Cond.instanceMethod yX7_cleanness ∈ TB := TB_of (tb_5 (List.mem_of_getElem? (i := 28) rfl)) rfl
theorem wse_X7_cleanness : Cond.selects RX7 yX7_cleanness yX7_cleanness ∈ TB := TB_of (tb_5 (List.mem_of_getElem? (i := 29) rfl)) rfl
theorem wcd_X7_cleanness : Cond.code yX7_cleanness cX7_cleanness 1 (some .double) ∈ TB := TB_of (tb_5 (List.mem_of_getElem? (i := 30) rfl)) rfl
theorem wml_RL_114 : Cond.methodLink RL 114 yX7_ifWind ∈ TB := TB_of (tb_5 (List.mem_of_getElem? (i := 31) rfl)) rfl
theorem wim_X7_ifWind : Cond.instanceMethod yX7_ifWind ∈ TB := TB_of (tb_5 (List.mem_of_getElem? (i := 32) rfl)) rfl
theorem wse_X7_ifWind : Cond.selects RX7 yX7_ifWind yX7_ifWind ∈ TB := TB_of (tb_5 (List.mem_of_getElem? (i := 33) rfl)) rfl
theorem wcd_X7_ifWind : Cond.code yX7_ifWind cX7_ifWind 2 (some .int) ∈ TB := TB_of (tb_5 (List.mem_of_getElem? (i := 34) rfl)) rfl
theorem wml_RL_118 : Cond.methodLink RL 118 yX7_bestWind ∈ TB := TB_of (tb_5 (List.mem_of_getElem? (i := 35) rfl)) rfl
theorem wim_X7_bestWind : Cond.instanceMethod yX7_bestWind ∈ TB := TB_of (tb_5 (List.mem_of_getElem? (i := 36) rfl)) rfl
theorem wse_X7_bestWind : Cond.selects RX7 yX7_bestWind yX7_bestWind ∈ TB := TB_of (tb_5 (List.mem_of_getElem? (i := 37) rfl)) rfl
theorem wcd_X7_bestWind : Cond.code yX7_bestWind cX7_bestWind 3 (some .int) ∈ TB := TB_of (tb_5 (List.mem_of_getElem? (i := 38) rfl)) rfl
theorem wml_RL_122 : Cond.methodLink RL 122 yX7_ifDays ∈ TB := TB_of (tb_5 (List.mem_of_getElem? (i := 39) rfl)) rfl
theorem wim_X7_ifDays : Cond.instanceMethod yX7_ifDays ∈ TB := TB_of (tb_5 (List.mem_of_getElem? (i := 40) rfl)) rfl
theorem wse_X7_ifDays : Cond.selects RX7 yX7_ifDays yX7_ifDays ∈ TB := TB_of (tb_5 (List.mem_of_getElem? (i := 41) rfl)) rfl
theorem wcd_X7_ifDays : Cond.code yX7_ifDays cX7_ifDays 5 (some .int) ∈ TB := TB_of (tb_5 (List.mem_of_getElem? (i := 42) rfl)) rfl
theorem wml_RL_126 : Cond.methodLink RL 126 yX7_bestPlace ∈ TB := TB_of (tb_5 (List.mem_of_getElem? (i := 43) rfl)) rfl
theorem wim_X7_bestPlace : Cond.instanceMethod yX7_bestPlace ∈ TB := TB_of (tb_5 (List.mem_of_getElem? (i := 44) rfl)) rfl
theorem wse_X7_bestPlace : Cond.selects RX7 yX7_bestPlace yX7_bestPlace ∈ TB := TB_of (tb_5 (List.mem_of_getElem? (i := 45) rfl)) rfl
theorem wcd_X7_bestPlace : Cond.code yX7_bestPlace cX7_bestPlace 6 (some .int) ∈ TB := TB_of (tb_5 (List.mem_of_getElem? (i := 46) rfl)) rfl
theorem wml_RX7_232 : Cond.methodLink RX7 232 yX7_windsOver ∈ TB := TB_of (tb_5 (List.mem_of_getElem? (i := 47) rfl)) rfl
theorem wim_X7_windsOver : Cond.instanceMethod yX7_windsOver ∈ TB := TB_of (tb_5 (List.mem_of_getElem? (i := 49) rfl)) rfl
theorem wcd_X7_windsOver : Cond.code yX7_windsOver cX7_windsOver 4 (some .int) ∈ TB := TB_of (tb_5 (List.mem_of_getElem? (i := 50) rfl)) rfl
theorem wml_RL_130 : Cond.methodLink RL 130 yX7_undo ∈ TB := TB_of (tb_5 (List.mem_of_getElem? (i := 51) rfl)) rfl
theorem wim_X7_undo : Cond.instanceMethod yX7_undo ∈ TB := TB_of (tb_5 (List.mem_of_getElem? (i := 52) rfl)) rfl
theorem wse_X7_undo : Cond.selects RX7 yX7_undo yX7_undo ∈ TB := TB_of (tb_5 (List.mem_of_getElem? (i := 53) rfl)) rfl
theorem wcd_X7_undo : Cond.code yX7_undo cX7_undo 1 (some .int) ∈ TB := TB_of (tb_5 (List.mem_of_getElem? (i := 54) rfl)) rfl
theorem wml_RL_134 : Cond.methodLink RL 134 yX7_save ∈ TB := TB_of (tb_5 (List.mem_of_getElem? (i := 55) rfl)) rfl
theorem wim_X7_save : Cond.instanceMethod yX7_save ∈ TB := TB_of (tb_5 (List.mem_of_getElem? (i := 56) rfl)) rfl
theorem wse_X7_save : Cond.selects RX7 yX7_save yX7_save ∈ TB := TB_of (tb_5 (List.mem_of_getElem? (i := 57) rfl)) rfl
theorem wcd_X7_save : Cond.code yX7_save cX7_save 1 (some .int) ∈ TB := TB_of (tb_5 (List.mem_of_getElem? (i := 58) rfl)) rfl
theorem wml_RL_138 : Cond.methodLink RL 138 yX7_restore ∈ TB := TB_of (tb_5 (List.mem_of_getElem? (i := 59) rfl)) rfl
theorem wim_X7_restore : Cond.instanceMethod yX7_restore ∈ TB := TB_of (tb_5 (List.mem_of_getElem? (i := 60) rfl)) rfl
theorem wse_X7_restore : Cond.selects RX7 yX7_restore yX7_restore ∈ TB := TB_of (tb_5 (List.mem_of_getElem? (i := 61) rfl)) rfl
theorem wcd_X7_restore : Cond.code yX7_restore cX7_restore 1 (some .int) ∈ TB := TB_of (tb_5 (List.mem_of_getElem? (i := 62) rfl)) rfl
theorem wse_X2_readOrder : Cond.selects RX2 yX2_readOrder yX2_readOrder ∈ TB := TB_of (tb_0 (List.mem_of_getElem? (i := 0) rfl)) rfl
theorem wse_X2_readOwner : Cond.selects RX2 yX2_readOwner yX2_readOwner ∈ TB := TB_of (tb_0 (List.mem_of_getElem? (i := 1) rfl)) rfl
theorem wse_X2_digitAt : Cond.selects RX2 yX2_digitAt yX2_digitAt ∈ TB := TB_of (tb_0 (List.mem_of_getElem? (i := 2) rfl)) rfl
theorem wse_X2_readSign : Cond.selects RX2 yX2_readSign yX2_readSign ∈ TB := TB_of (tb_0 (List.mem_of_getElem? (i := 3) rfl)) rfl
theorem wse_X2_readNumber : Cond.selects RX2 yX2_readNumber yX2_readNumber ∈ TB := TB_of (tb_0 (List.mem_of_getElem? (i := 4) rfl)) rfl
theorem wse_X6_carryOutOrder : Cond.selects RX6 yX6_carryOutOrder yX6_carryOutOrder ∈ TB := TB_of (tb_0 (List.mem_of_getElem? (i := 5) rfl)) rfl
theorem wse_X6_keepStop : Cond.selects RX6 yX6_keepStop yX6_keepStop ∈ TB := TB_of (tb_0 (List.mem_of_getElem? (i := 6) rfl)) rfl
theorem wse_X5_joinOver : Cond.selects RX5 yX5_joinOver yX5_joinOver ∈ TB := TB_of (tb_0 (List.mem_of_getElem? (i := 7) rfl)) rfl
theorem wse_X5_rename : Cond.selects RX5 yX5_rename yX5_rename ∈ TB := TB_of (tb_0 (List.mem_of_getElem? (i := 8) rfl)) rfl
theorem wse_X5_spread : Cond.selects RX5 yX5_spread yX5_spread ∈ TB := TB_of (tb_0 (List.mem_of_getElem? (i := 9) rfl)) rfl
theorem wse_X5_raise : Cond.selects RX5 yX5_raise yX5_raise ∈ TB := TB_of (tb_0 (List.mem_of_getElem? (i := 10) rfl)) rfl
theorem wse_X5_oneWalkFurther : Cond.selects RX5 yX5_oneWalkFurther yX5_oneWalkFurther ∈ TB := TB_of (tb_0 (List.mem_of_getElem? (i := 11) rfl)) rfl
theorem wse_X7_records : Cond.selects RX7 yX7_records yX7_records ∈ TB := TB_of (tb_0 (List.mem_of_getElem? (i := 12) rfl)) rfl
theorem wse_X7_of : Cond.selects RX7 yX7_of yX7_of ∈ TB := TB_of (tb_0 (List.mem_of_getElem? (i := 13) rfl)) rfl
theorem wse_X7_lays : Cond.selects RX7 yX7_lays yX7_lays ∈ TB := TB_of (tb_0 (List.mem_of_getElem? (i := 14) rfl)) rfl
theorem wse_X7_hasLine : Cond.selects RX7 yX7_hasLine yX7_hasLine ∈ TB := TB_of (tb_0 (List.mem_of_getElem? (i := 15) rfl)) rfl
theorem wse_X7_removes : Cond.selects RX7 yX7_removes yX7_removes ∈ TB := TB_of (tb_0 (List.mem_of_getElem? (i := 16) rfl)) rfl
theorem wse_X7_goChimney : Cond.selects RX7 yX7_goChimney yX7_goChimney ∈ TB := TB_of (tb_0 (List.mem_of_getElem? (i := 17) rfl)) rfl
theorem wse_X7_smoke : Cond.selects RX7 yX7_smoke yX7_smoke ∈ TB := TB_of (tb_0 (List.mem_of_getElem? (i := 18) rfl)) rfl
theorem wse_X7_smokeBy : Cond.selects RX7 yX7_smokeBy yX7_smokeBy ∈ TB := TB_of (tb_0 (List.mem_of_getElem? (i := 19) rfl)) rfl
theorem wse_X7_smokeOf : Cond.selects RX7 yX7_smokeOf yX7_smokeOf ∈ TB := TB_of (tb_0 (List.mem_of_getElem? (i := 20) rfl)) rfl
theorem wse_X7_ofOwner : Cond.selects RX7 yX7_ofOwner yX7_ofOwner ∈ TB := TB_of (tb_0 (List.mem_of_getElem? (i := 21) rfl)) rfl
theorem wse_X7_goHang : Cond.selects RX7 yX7_goHang yX7_goHang ∈ TB := TB_of (tb_0 (List.mem_of_getElem? (i := 22) rfl)) rfl
theorem wse_X7_reasonToHang : Cond.selects RX7 yX7_reasonToHang yX7_reasonToHang ∈ TB := TB_of (tb_0 (List.mem_of_getElem? (i := 23) rfl)) rfl
theorem wse_X7_bothOf : Cond.selects RX7 yX7_bothOf yX7_bothOf ∈ TB := TB_of (tb_0 (List.mem_of_getElem? (i := 24) rfl)) rfl
theorem wse_X7_nearCoops : Cond.selects RX7 yX7_nearCoops yX7_nearCoops ∈ TB := TB_of (tb_0 (List.mem_of_getElem? (i := 25) rfl)) rfl
theorem wse_X7_refuses : Cond.selects RX7 yX7_refuses yX7_refuses ∈ TB := TB_of (tb_0 (List.mem_of_getElem? (i := 26) rfl)) rfl
theorem wse_X7_linesNow : Cond.selects RX7 yX7_linesNow yX7_linesNow ∈ TB := TB_of (tb_0 (List.mem_of_getElem? (i := 27) rfl)) rfl
theorem wse_X7_goTake : Cond.selects RX7 yX7_goTake yX7_goTake ∈ TB := TB_of (tb_0 (List.mem_of_getElem? (i := 28) rfl)) rfl
theorem wse_X7_goWalk : Cond.selects RX7 yX7_goWalk yX7_goWalk ∈ TB := TB_of (tb_0 (List.mem_of_getElem? (i := 29) rfl)) rfl
theorem wse_X7_reasonToWalk : Cond.selects RX7 yX7_reasonToWalk yX7_reasonToWalk ∈ TB := TB_of (tb_0 (List.mem_of_getElem? (i := 30) rfl)) rfl
theorem wse_X7_goDay : Cond.selects RX7 yX7_goDay yX7_goDay ∈ TB := TB_of (tb_0 (List.mem_of_getElem? (i := 31) rfl)) rfl
theorem wse_X7_cleanNow : Cond.selects RX7 yX7_cleanNow yX7_cleanNow ∈ TB := TB_of (tb_0 (List.mem_of_getElem? (i := 32) rfl)) rfl
theorem wse_X7_isClean : Cond.selects RX7 yX7_isClean yX7_isClean ∈ TB := TB_of (tb_0 (List.mem_of_getElem? (i := 33) rfl)) rfl
theorem wse_X7_isText : Cond.selects RX7 yX7_isText yX7_isText ∈ TB := TB_of (tb_0 (List.mem_of_getElem? (i := 34) rfl)) rfl
theorem wse_X7_takesOrder : Cond.selects RX7 yX7_takesOrder yX7_takesOrder ∈ TB := TB_of (tb_0 (List.mem_of_getElem? (i := 35) rfl)) rfl
theorem wse_X7_here : Cond.selects RX7 yX7_here yX7_here ∈ TB := TB_of (tb_0 (List.mem_of_getElem? (i := 36) rfl)) rfl
theorem wse_X7_takes : Cond.selects RX7 yX7_takes yX7_takes ∈ TB := TB_of (tb_0 (List.mem_of_getElem? (i := 37) rfl)) rfl
theorem wse_X7_takesNumber : Cond.selects RX7 yX7_takesNumber yX7_takesNumber ∈ TB := TB_of (tb_0 (List.mem_of_getElem? (i := 38) rfl)) rfl
theorem wse_X7_doesOrder : Cond.selects RX7 yX7_doesOrder yX7_doesOrder ∈ TB := TB_of (tb_0 (List.mem_of_getElem? (i := 39) rfl)) rfl
theorem wse_X7_chimneysOver : Cond.selects RX7 yX7_chimneysOver yX7_chimneysOver ∈ TB := TB_of (tb_0 (List.mem_of_getElem? (i := 40) rfl)) rfl
theorem wse_X7_ownersAt : Cond.selects RX7 yX7_ownersAt yX7_ownersAt ∈ TB := TB_of (tb_0 (List.mem_of_getElem? (i := 41) rfl)) rfl
theorem wse_X7_strongAt : Cond.selects RX7 yX7_strongAt yX7_strongAt ∈ TB := TB_of (tb_0 (List.mem_of_getElem? (i := 42) rfl)) rfl
theorem wse_X7_linesAt : Cond.selects RX7 yX7_linesAt yX7_linesAt ∈ TB := TB_of (tb_0 (List.mem_of_getElem? (i := 43) rfl)) rfl
theorem wse_X7_comeTo : Cond.selects RX7 yX7_comeTo yX7_comeTo ∈ TB := TB_of (tb_0 (List.mem_of_getElem? (i := 44) rfl)) rfl
theorem wse_X7_linesOf : Cond.selects RX7 yX7_linesOf yX7_linesOf ∈ TB := TB_of (tb_0 (List.mem_of_getElem? (i := 45) rfl)) rfl
theorem wse_X7_walksNow : Cond.selects RX7 yX7_walksNow yX7_walksNow ∈ TB := TB_of (tb_0 (List.mem_of_getElem? (i := 46) rfl)) rfl
theorem wse_X7_hangsNow : Cond.selects RX7 yX7_hangsNow yX7_hangsNow ∈ TB := TB_of (tb_0 (List.mem_of_getElem? (i := 47) rfl)) rfl
theorem wse_X7_strengthOf : Cond.selects RX7 yX7_strengthOf yX7_strengthOf ∈ TB := TB_of (tb_0 (List.mem_of_getElem? (i := 48) rfl)) rfl
theorem wse_X7_stepsOf : Cond.selects RX7 yX7_stepsOf yX7_stepsOf ∈ TB := TB_of (tb_0 (List.mem_of_getElem? (i := 49) rfl)) rfl
theorem wse_X7_furtherFrom : Cond.selects RX7 yX7_furtherFrom yX7_furtherFrom ∈ TB := TB_of (tb_0 (List.mem_of_getElem? (i := 50) rfl)) rfl
theorem wse_X7_sumOf : Cond.selects RX7 yX7_sumOf yX7_sumOf ∈ TB := TB_of (tb_0 (List.mem_of_getElem? (i := 51) rfl)) rfl
theorem wse_X7_smokedBy : Cond.selects RX7 yX7_smokedBy yX7_smokedBy ∈ TB := TB_of (tb_0 (List.mem_of_getElem? (i := 52) rfl)) rfl
theorem wse_X7_windsOver : Cond.selects RX7 yX7_windsOver yX7_windsOver ∈ TB := TB_of (tb_0 (List.mem_of_getElem? (i := 53) rfl)) rfl
theorem inT_X0 : ∀ w ∈ u_ws RX0 TX0 19, w ∈ TB := List.forall_mem_cons.mpr ⟨wla_RX0_borne, List.forall_mem_cons.mpr ⟨wla_RX0_hangers, List.forall_mem_cons.mpr ⟨wla_RX0_soot, List.forall_mem_cons.mpr ⟨wla_RX0_spots, List.forall_mem_cons.mpr ⟨wla_RX0_weights, List.forall_mem_cons.mpr ⟨wla_RX0_keys, List.forall_mem_cons.mpr ⟨wla_RX0_places, List.forall_mem_cons.mpr ⟨wla_RX0_walks, List.forall_mem_cons.mpr ⟨wla_RX0_truces, List.forall_mem_cons.mpr ⟨wla_RX0_chimneys, List.forall_mem_cons.mpr ⟨wla_RX0_coops, List.forall_mem_cons.mpr ⟨wla_RX0_windTo, List.forall_mem_cons.mpr ⟨wla_RX0_smokeReach, List.forall_mem_cons.mpr ⟨wla_RX0_dayNumber, List.forall_mem_cons.mpr ⟨wla_RX0_lot, List.forall_mem_cons.mpr ⟨wla_RX0_hung, List.forall_mem_cons.mpr ⟨wla_RX0_taken, List.forall_mem_cons.mpr ⟨wla_RX0_fallen, List.forall_mem_cons.mpr ⟨wla_RX0_refused, fun _ h => absurd h List.not_mem_nil⟩⟩⟩⟩⟩⟩⟩⟩⟩⟩⟩⟩⟩⟩⟩⟩⟩⟩⟩
theorem inT_X1 : ∀ w ∈ u_ws RX1 TX1 2, w ∈ TB := List.forall_mem_cons.mpr ⟨wla_RX1_states, List.forall_mem_cons.mpr ⟨wla_RX1_size, fun _ h => absurd h List.not_mem_nil⟩⟩
theorem inT_X2 : ∀ w ∈ u_ws RX2 TX2 6, w ∈ TB := List.forall_mem_cons.mpr ⟨wla_RX2_text, List.forall_mem_cons.mpr ⟨wla_RX2_position, List.forall_mem_cons.mpr ⟨wla_RX2_start, List.forall_mem_cons.mpr ⟨wla_RX2_letter, List.forall_mem_cons.mpr ⟨wla_RX2_orderOwner, List.forall_mem_cons.mpr ⟨wla_RX2_orderNumber, fun _ h => absurd h List.not_mem_nil⟩⟩⟩⟩⟩⟩
theorem inT_X3 : ∀ w ∈ u_ws RX3 TX3 2, w ∈ TB := List.forall_mem_cons.mpr ⟨wla_RX3_signs, List.forall_mem_cons.mpr ⟨wla_RX3_length, fun _ h => absurd h List.not_mem_nil⟩⟩
theorem inT_X5 : ∀ w ∈ u_ws RX5 TX5 2, w ∈ TB := List.forall_mem_cons.mpr ⟨wla_RX5_groups, List.forall_mem_cons.mpr ⟨wla_RX5_strengths, fun _ h => absurd h List.not_mem_nil⟩⟩
theorem inT_X6 : ∀ w ∈ u_ws RX6 TX6 12, w ∈ TB := List.forall_mem_cons.mpr ⟨wla_RX6_city, List.forall_mem_cons.mpr ⟨wla_RX6_trial, List.forall_mem_cons.mpr ⟨wla_RX6_snapshot, List.forall_mem_cons.mpr ⟨wla_RX6_snapshotTaken, List.forall_mem_cons.mpr ⟨wla_RX6_history, List.forall_mem_cons.mpr ⟨wla_RX6_ways, List.forall_mem_cons.mpr ⟨wla_RX6_pad, List.forall_mem_cons.mpr ⟨wla_RX6_reader, List.forall_mem_cons.mpr ⟨wla_RX6_stopped, List.forall_mem_cons.mpr ⟨wla_RX6_stopCause, List.forall_mem_cons.mpr ⟨wla_RX6_stopNumber, List.forall_mem_cons.mpr ⟨wla_RX6_stopPosition, fun _ h => absurd h List.not_mem_nil⟩⟩⟩⟩⟩⟩⟩⟩⟩⟩⟩⟩
theorem inT_X7 : ∀ w ∈ u_ws RX7 TX7 15, w ∈ TB := List.forall_mem_cons.mpr ⟨wla_RX7_s, List.forall_mem_cons.mpr ⟨wla_RX7_aside, List.forall_mem_cons.mpr ⟨wla_RX7_past, List.forall_mem_cons.mpr ⟨wla_RX7_known, List.forall_mem_cons.mpr ⟨wla_RX7_kept, List.forall_mem_cons.mpr ⟨wla_RX7_isKept, List.forall_mem_cons.mpr ⟨wla_RX7_pad, List.forall_mem_cons.mpr ⟨wla_RX7_length, List.forall_mem_cons.mpr ⟨wla_RX7_spot, List.forall_mem_cons.mpr ⟨wla_RX7_isForm, List.forall_mem_cons.mpr ⟨wla_RX7_letter, List.forall_mem_cons.mpr ⟨wla_RX7_first, List.forall_mem_cons.mpr ⟨wla_RX7_second, List.forall_mem_cons.mpr ⟨wla_RX7_isStopped, List.forall_mem_cons.mpr ⟨wla_RX7_stop, fun _ h => absurd h List.not_mem_nil⟩⟩⟩⟩⟩⟩⟩⟩⟩⟩⟩⟩⟩⟩⟩
end
section
theorem dX0_init_0 : decode cX0_init 0 = .ok (.aload_n 0, 1) := by decide +kernel
theorem dX0_init_1 : decode cX0_init 1 = .ok (.invokespecial 3, 3) := by decide +kernel
theorem dX0_init_4 : decode cX0_init 4 = .ok (.aload_n 0, 1) := by decide +kernel
theorem dX0_init_5 : decode cX0_init 5 = .ok (.bipush 28, 2) := by decide +kernel
theorem dX0_init_7 : decode cX0_init 7 = .ok (.newarray .int, 2) := by decide +kernel
theorem dX0_init_9 : decode cX0_init 9 = .ok (.putfield 9, 3) := by decide +kernel
theorem dX0_init_12 : decode cX0_init 12 = .ok (.aload_n 0, 1) := by decide +kernel
theorem dX0_init_13 : decode cX0_init 13 = .ok (.bipush 28, 2) := by decide +kernel
theorem dX0_init_15 : decode cX0_init 15 = .ok (.newarray .int, 2) := by decide +kernel
theorem dX0_init_17 : decode cX0_init 17 = .ok (.putfield 15, 3) := by decide +kernel
theorem dX0_init_20 : decode cX0_init 20 = .ok (.aload_n 0, 1) := by decide +kernel
theorem dX0_init_21 : decode cX0_init 21 = .ok (.bipush 28, 2) := by decide +kernel
theorem dX0_init_23 : decode cX0_init 23 = .ok (.newarray .int, 2) := by decide +kernel
theorem dX0_init_25 : decode cX0_init 25 = .ok (.putfield 18, 3) := by decide +kernel
theorem dX0_init_28 : decode cX0_init 28 = .ok (.aload_n 0, 1) := by decide +kernel
theorem dX0_init_29 : decode cX0_init 29 = .ok (.bipush 28, 2) := by decide +kernel
theorem dX0_init_31 : decode cX0_init 31 = .ok (.newarray .int, 2) := by decide +kernel
theorem dX0_init_33 : decode cX0_init 33 = .ok (.putfield 21, 3) := by decide +kernel
theorem dX0_init_36 : decode cX0_init 36 = .ok (.aload_n 0, 1) := by decide +kernel
theorem dX0_init_37 : decode cX0_init 37 = .ok (.iconst 4, 1) := by decide +kernel
theorem dX0_init_38 : decode cX0_init 38 = .ok (.newarray .int, 2) := by decide +kernel
theorem dX0_init_40 : decode cX0_init 40 = .ok (.putfield 24, 3) := by decide +kernel
theorem dX0_init_43 : decode cX0_init 43 = .ok (.aload_n 0, 1) := by decide +kernel
theorem dX0_init_44 : decode cX0_init 44 = .ok (.iconst 4, 1) := by decide +kernel
theorem dX0_init_45 : decode cX0_init 45 = .ok (.newarray .int, 2) := by decide +kernel
theorem dX0_init_47 : decode cX0_init 47 = .ok (.putfield 27, 3) := by decide +kernel
theorem dX0_init_50 : decode cX0_init 50 = .ok (.aload_n 0, 1) := by decide +kernel
theorem dX0_init_51 : decode cX0_init 51 = .ok (.iconst 4, 1) := by decide +kernel
theorem dX0_init_52 : decode cX0_init 52 = .ok (.newarray .int, 2) := by decide +kernel
theorem dX0_init_54 : decode cX0_init 54 = .ok (.putfield 30, 3) := by decide +kernel
theorem dX0_init_57 : decode cX0_init 57 = .ok (.aload_n 0, 1) := by decide +kernel
theorem dX0_init_58 : decode cX0_init 58 = .ok (.iconst 4, 1) := by decide +kernel
theorem dX0_init_59 : decode cX0_init 59 = .ok (.newarray .int, 2) := by decide +kernel
theorem dX0_init_61 : decode cX0_init 61 = .ok (.putfield 33, 3) := by decide +kernel
theorem dX0_init_64 : decode cX0_init 64 = .ok (.aload_n 0, 1) := by decide +kernel
theorem dX0_init_65 : decode cX0_init 65 = .ok (.iconst 0, 1) := by decide +kernel
theorem dX0_init_66 : decode cX0_init 66 = .ok (.putfield 36, 3) := by decide +kernel
theorem dX0_init_69 : decode cX0_init 69 = .ok (.aload_n 0, 1) := by decide +kernel
theorem dX0_init_70 : decode cX0_init 70 = .ok (.iconst 2, 1) := by decide +kernel
theorem dX0_init_71 : decode cX0_init 71 = .ok (.putfield 40, 3) := by decide +kernel
theorem dX0_init_74 : decode cX0_init 74 = .ok (.aload_n 0, 1) := by decide +kernel
theorem dX0_init_75 : decode cX0_init 75 = .ok (.iconst 1, 1) := by decide +kernel
theorem dX0_init_76 : decode cX0_init 76 = .ok (.putfield 43, 3) := by decide +kernel
theorem dX0_init_79 : decode cX0_init 79 = .ok (.iconst 0, 1) := by decide +kernel
theorem dX0_init_80 : decode cX0_init 80 = .ok (.istore_n 1, 1) := by decide +kernel
theorem dX0_init_81 : decode cX0_init 81 = .ok (.iload_n 1, 1) := by decide +kernel
theorem dX0_init_82 : decode cX0_init 82 = .ok (.bipush 28, 2) := by decide +kernel
theorem dX0_init_84 : decode cX0_init 84 = .ok (.if_icmp .ge 27, 3) := by decide +kernel
theorem dX0_init_87 : decode cX0_init 87 = .ok (.aload_n 0, 1) := by decide +kernel
theorem dX0_init_88 : decode cX0_init 88 = .ok (.getfield 9, 3) := by decide +kernel
theorem dX0_init_91 : decode cX0_init 91 = .ok (.iload_n 1, 1) := by decide +kernel
theorem dX0_init_92 : decode cX0_init 92 = .ok (.iload_n 1, 1) := by decide +kernel
theorem dX0_init_93 : decode cX0_init 93 = .ok (.invokestatic 46, 3) := by decide +kernel
theorem dX0_init_96 : decode cX0_init 96 = .ok (.ifCond .eq 7, 3) := by decide +kernel
theorem dX0_init_99 : decode cX0_init 99 = .ok (.iconst 5, 1) := by decide +kernel
theorem dX0_init_100 : decode cX0_init 100 = .ok (.goto 4, 3) := by decide +kernel
theorem dX0_init_103 : decode cX0_init 103 = .ok (.iconst 0, 1) := by decide +kernel
theorem dX0_init_104 : decode cX0_init 104 = .ok (.iastore, 1) := by decide +kernel
theorem dX0_init_105 : decode cX0_init 105 = .ok (.iinc 1 1, 3) := by decide +kernel
theorem dX0_init_108 : decode cX0_init 108 = .ok (.goto (-27), 3) := by decide +kernel
theorem dX0_init_111 : decode cX0_init 111 = .ok (.aload_n 0, 1) := by decide +kernel
theorem dX0_init_112 : decode cX0_init 112 = .ok (.getfield 15, 3) := by decide +kernel
theorem dX0_init_115 : decode cX0_init 115 = .ok (.iconst (-1), 1) := by decide +kernel
theorem dX0_init_116 : decode cX0_init 116 = .ok (.invokestatic 52, 3) := by decide +kernel
theorem dX0_init_119 : decode cX0_init 119 = .ok (.aload_n 0, 1) := by decide +kernel
theorem dX0_init_120 : decode cX0_init 120 = .ok (.getfield 24, 3) := by decide +kernel
theorem dX0_init_123 : decode cX0_init 123 = .ok (.iconst 3, 1) := by decide +kernel
theorem dX0_init_124 : decode cX0_init 124 = .ok (.invokestatic 52, 3) := by decide +kernel
theorem dX0_init_127 : decode cX0_init 127 = .ok (.aload_n 0, 1) := by decide +kernel
theorem dX0_init_128 : decode cX0_init 128 = .ok (.getfield 27, 3) := by decide +kernel
theorem dX0_init_131 : decode cX0_init 131 = .ok (.ldc 58, 2) := by decide +kernel
theorem dX0_init_133 : decode cX0_init 133 = .ok (.invokestatic 52, 3) := by decide +kernel
theorem dX0_init_136 : decode cX0_init 136 = .ok (.iconst 0, 1) := by decide +kernel
theorem dX0_init_137 : decode cX0_init 137 = .ok (.istore_n 1, 1) := by decide +kernel
theorem dX0_init_138 : decode cX0_init 138 = .ok (.iload_n 1, 1) := by decide +kernel
theorem dX0_init_139 : decode cX0_init 139 = .ok (.iconst 4, 1) := by decide +kernel
theorem dX0_init_140 : decode cX0_init 140 = .ok (.if_icmp .ge 18, 3) := by decide +kernel
theorem dX0_init_143 : decode cX0_init 143 = .ok (.aload_n 0, 1) := by decide +kernel
theorem dX0_init_144 : decode cX0_init 144 = .ok (.getfield 30, 3) := by decide +kernel
theorem dX0_init_147 : decode cX0_init 147 = .ok (.iload_n 1, 1) := by decide +kernel
theorem dX0_init_148 : decode cX0_init 148 = .ok (.iconst 5, 1) := by decide +kernel
theorem dX0_init_149 : decode cX0_init 149 = .ok (.iload_n 1, 1) := by decide +kernel
theorem dX0_init_150 : decode cX0_init 150 = .ok (.imul, 1) := by decide +kernel
theorem dX0_init_151 : decode cX0_init 151 = .ok (.iastore, 1) := by decide +kernel
theorem dX0_init_152 : decode cX0_init 152 = .ok (.iinc 1 1, 3) := by decide +kernel
theorem dX0_init_155 : decode cX0_init 155 = .ok (.goto (-17), 3) := by decide +kernel
theorem dX0_init_158 : decode cX0_init 158 = .ok (.return_, 1) := by decide +kernel
theorem dX0_copyFrom_0 : decode cX0_copyFrom 0 = .ok (.aload_n 1, 1) := by decide +kernel
theorem dX0_copyFrom_1 : decode cX0_copyFrom 1 = .ok (.getfield 9, 3) := by decide +kernel
theorem dX0_copyFrom_4 : decode cX0_copyFrom 4 = .ok (.iconst 0, 1) := by decide +kernel
theorem dX0_copyFrom_5 : decode cX0_copyFrom 5 = .ok (.aload_n 0, 1) := by decide +kernel
theorem dX0_copyFrom_6 : decode cX0_copyFrom 6 = .ok (.getfield 9, 3) := by decide +kernel
theorem dX0_copyFrom_9 : decode cX0_copyFrom 9 = .ok (.iconst 0, 1) := by decide +kernel
theorem dX0_copyFrom_10 : decode cX0_copyFrom 10 = .ok (.bipush 28, 2) := by decide +kernel
theorem dX0_copyFrom_12 : decode cX0_copyFrom 12 = .ok (.invokestatic 59, 3) := by decide +kernel
theorem dX0_copyFrom_15 : decode cX0_copyFrom 15 = .ok (.aload_n 1, 1) := by decide +kernel
theorem dX0_copyFrom_16 : decode cX0_copyFrom 16 = .ok (.getfield 15, 3) := by decide +kernel
theorem dX0_copyFrom_19 : decode cX0_copyFrom 19 = .ok (.iconst 0, 1) := by decide +kernel
theorem dX0_copyFrom_20 : decode cX0_copyFrom 20 = .ok (.aload_n 0, 1) := by decide +kernel
theorem dX0_copyFrom_21 : decode cX0_copyFrom 21 = .ok (.getfield 15, 3) := by decide +kernel
theorem dX0_copyFrom_24 : decode cX0_copyFrom 24 = .ok (.iconst 0, 1) := by decide +kernel
theorem dX0_copyFrom_25 : decode cX0_copyFrom 25 = .ok (.bipush 28, 2) := by decide +kernel
theorem dX0_copyFrom_27 : decode cX0_copyFrom 27 = .ok (.invokestatic 59, 3) := by decide +kernel
theorem dX0_copyFrom_30 : decode cX0_copyFrom 30 = .ok (.aload_n 1, 1) := by decide +kernel
theorem dX0_copyFrom_31 : decode cX0_copyFrom 31 = .ok (.getfield 18, 3) := by decide +kernel
theorem dX0_copyFrom_34 : decode cX0_copyFrom 34 = .ok (.iconst 0, 1) := by decide +kernel
theorem dX0_copyFrom_35 : decode cX0_copyFrom 35 = .ok (.aload_n 0, 1) := by decide +kernel
theorem dX0_copyFrom_36 : decode cX0_copyFrom 36 = .ok (.getfield 18, 3) := by decide +kernel
theorem dX0_copyFrom_39 : decode cX0_copyFrom 39 = .ok (.iconst 0, 1) := by decide +kernel
theorem dX0_copyFrom_40 : decode cX0_copyFrom 40 = .ok (.bipush 28, 2) := by decide +kernel
theorem dX0_copyFrom_42 : decode cX0_copyFrom 42 = .ok (.invokestatic 59, 3) := by decide +kernel
theorem dX0_copyFrom_45 : decode cX0_copyFrom 45 = .ok (.aload_n 1, 1) := by decide +kernel
theorem dX0_copyFrom_46 : decode cX0_copyFrom 46 = .ok (.getfield 21, 3) := by decide +kernel
theorem dX0_copyFrom_49 : decode cX0_copyFrom 49 = .ok (.iconst 0, 1) := by decide +kernel
theorem dX0_copyFrom_50 : decode cX0_copyFrom 50 = .ok (.aload_n 0, 1) := by decide +kernel
theorem dX0_copyFrom_51 : decode cX0_copyFrom 51 = .ok (.getfield 21, 3) := by decide +kernel
theorem dX0_copyFrom_54 : decode cX0_copyFrom 54 = .ok (.iconst 0, 1) := by decide +kernel
theorem dX0_copyFrom_55 : decode cX0_copyFrom 55 = .ok (.bipush 28, 2) := by decide +kernel
theorem dX0_copyFrom_57 : decode cX0_copyFrom 57 = .ok (.invokestatic 59, 3) := by decide +kernel
theorem dX0_copyFrom_60 : decode cX0_copyFrom 60 = .ok (.aload_n 1, 1) := by decide +kernel
theorem dX0_copyFrom_61 : decode cX0_copyFrom 61 = .ok (.getfield 24, 3) := by decide +kernel
theorem dX0_copyFrom_64 : decode cX0_copyFrom 64 = .ok (.iconst 0, 1) := by decide +kernel
theorem dX0_copyFrom_65 : decode cX0_copyFrom 65 = .ok (.aload_n 0, 1) := by decide +kernel
theorem dX0_copyFrom_66 : decode cX0_copyFrom 66 = .ok (.getfield 24, 3) := by decide +kernel
theorem dX0_copyFrom_69 : decode cX0_copyFrom 69 = .ok (.iconst 0, 1) := by decide +kernel
theorem dX0_copyFrom_70 : decode cX0_copyFrom 70 = .ok (.iconst 4, 1) := by decide +kernel
theorem dX0_copyFrom_71 : decode cX0_copyFrom 71 = .ok (.invokestatic 59, 3) := by decide +kernel
theorem dX0_copyFrom_74 : decode cX0_copyFrom 74 = .ok (.aload_n 1, 1) := by decide +kernel
theorem dX0_copyFrom_75 : decode cX0_copyFrom 75 = .ok (.getfield 27, 3) := by decide +kernel
theorem dX0_copyFrom_78 : decode cX0_copyFrom 78 = .ok (.iconst 0, 1) := by decide +kernel
theorem dX0_copyFrom_79 : decode cX0_copyFrom 79 = .ok (.aload_n 0, 1) := by decide +kernel
theorem dX0_copyFrom_80 : decode cX0_copyFrom 80 = .ok (.getfield 27, 3) := by decide +kernel
theorem dX0_copyFrom_83 : decode cX0_copyFrom 83 = .ok (.iconst 0, 1) := by decide +kernel
theorem dX0_copyFrom_84 : decode cX0_copyFrom 84 = .ok (.iconst 4, 1) := by decide +kernel
theorem dX0_copyFrom_85 : decode cX0_copyFrom 85 = .ok (.invokestatic 59, 3) := by decide +kernel
theorem dX0_copyFrom_88 : decode cX0_copyFrom 88 = .ok (.aload_n 1, 1) := by decide +kernel
theorem dX0_copyFrom_89 : decode cX0_copyFrom 89 = .ok (.getfield 30, 3) := by decide +kernel
theorem dX0_copyFrom_92 : decode cX0_copyFrom 92 = .ok (.iconst 0, 1) := by decide +kernel
theorem dX0_copyFrom_93 : decode cX0_copyFrom 93 = .ok (.aload_n 0, 1) := by decide +kernel
theorem dX0_copyFrom_94 : decode cX0_copyFrom 94 = .ok (.getfield 30, 3) := by decide +kernel
theorem dX0_copyFrom_97 : decode cX0_copyFrom 97 = .ok (.iconst 0, 1) := by decide +kernel
theorem dX0_copyFrom_98 : decode cX0_copyFrom 98 = .ok (.iconst 4, 1) := by decide +kernel
theorem dX0_copyFrom_99 : decode cX0_copyFrom 99 = .ok (.invokestatic 59, 3) := by decide +kernel
theorem dX0_copyFrom_102 : decode cX0_copyFrom 102 = .ok (.aload_n 1, 1) := by decide +kernel
theorem dX0_copyFrom_103 : decode cX0_copyFrom 103 = .ok (.getfield 33, 3) := by decide +kernel
theorem dX0_copyFrom_106 : decode cX0_copyFrom 106 = .ok (.iconst 0, 1) := by decide +kernel
theorem dX0_copyFrom_107 : decode cX0_copyFrom 107 = .ok (.aload_n 0, 1) := by decide +kernel
theorem dX0_copyFrom_108 : decode cX0_copyFrom 108 = .ok (.getfield 33, 3) := by decide +kernel
theorem dX0_copyFrom_111 : decode cX0_copyFrom 111 = .ok (.iconst 0, 1) := by decide +kernel
theorem dX0_copyFrom_112 : decode cX0_copyFrom 112 = .ok (.iconst 4, 1) := by decide +kernel
theorem dX0_copyFrom_113 : decode cX0_copyFrom 113 = .ok (.invokestatic 59, 3) := by decide +kernel
theorem dX0_copyFrom_116 : decode cX0_copyFrom 116 = .ok (.aload_n 0, 1) := by decide +kernel
theorem dX0_copyFrom_117 : decode cX0_copyFrom 117 = .ok (.aload_n 1, 1) := by decide +kernel
theorem dX0_copyFrom_118 : decode cX0_copyFrom 118 = .ok (.getfield 65, 3) := by decide +kernel
theorem dX0_copyFrom_121 : decode cX0_copyFrom 121 = .ok (.putfield 65, 3) := by decide +kernel
theorem dX0_copyFrom_124 : decode cX0_copyFrom 124 = .ok (.aload_n 0, 1) := by decide +kernel
theorem dX0_copyFrom_125 : decode cX0_copyFrom 125 = .ok (.aload_n 1, 1) := by decide +kernel
theorem dX0_copyFrom_126 : decode cX0_copyFrom 126 = .ok (.getfield 68, 3) := by decide +kernel
theorem dX0_copyFrom_129 : decode cX0_copyFrom 129 = .ok (.putfield 68, 3) := by decide +kernel
theorem dX0_copyFrom_132 : decode cX0_copyFrom 132 = .ok (.aload_n 0, 1) := by decide +kernel
theorem dX0_copyFrom_133 : decode cX0_copyFrom 133 = .ok (.aload_n 1, 1) := by decide +kernel
theorem dX0_copyFrom_134 : decode cX0_copyFrom 134 = .ok (.getfield 71, 3) := by decide +kernel
theorem dX0_copyFrom_137 : decode cX0_copyFrom 137 = .ok (.putfield 71, 3) := by decide +kernel
theorem dX0_copyFrom_140 : decode cX0_copyFrom 140 = .ok (.aload_n 0, 1) := by decide +kernel
theorem dX0_copyFrom_141 : decode cX0_copyFrom 141 = .ok (.aload_n 1, 1) := by decide +kernel
theorem dX0_copyFrom_142 : decode cX0_copyFrom 142 = .ok (.getfield 36, 3) := by decide +kernel
theorem dX0_copyFrom_145 : decode cX0_copyFrom 145 = .ok (.putfield 36, 3) := by decide +kernel
theorem dX0_copyFrom_148 : decode cX0_copyFrom 148 = .ok (.aload_n 0, 1) := by decide +kernel
theorem dX0_copyFrom_149 : decode cX0_copyFrom 149 = .ok (.aload_n 1, 1) := by decide +kernel
theorem dX0_copyFrom_150 : decode cX0_copyFrom 150 = .ok (.getfield 40, 3) := by decide +kernel
theorem dX0_copyFrom_153 : decode cX0_copyFrom 153 = .ok (.putfield 40, 3) := by decide +kernel
theorem dX0_copyFrom_156 : decode cX0_copyFrom 156 = .ok (.aload_n 0, 1) := by decide +kernel
theorem dX0_copyFrom_157 : decode cX0_copyFrom 157 = .ok (.aload_n 1, 1) := by decide +kernel
theorem dX0_copyFrom_158 : decode cX0_copyFrom 158 = .ok (.getfield 74, 3) := by decide +kernel
theorem dX0_copyFrom_161 : decode cX0_copyFrom 161 = .ok (.putfield 74, 3) := by decide +kernel
theorem dX0_copyFrom_164 : decode cX0_copyFrom 164 = .ok (.aload_n 0, 1) := by decide +kernel
theorem dX0_copyFrom_165 : decode cX0_copyFrom 165 = .ok (.aload_n 1, 1) := by decide +kernel
theorem dX0_copyFrom_166 : decode cX0_copyFrom 166 = .ok (.getfield 43, 3) := by decide +kernel
theorem dX0_copyFrom_169 : decode cX0_copyFrom 169 = .ok (.putfield 43, 3) := by decide +kernel
theorem dX0_copyFrom_172 : decode cX0_copyFrom 172 = .ok (.aload_n 0, 1) := by decide +kernel
theorem dX0_copyFrom_173 : decode cX0_copyFrom 173 = .ok (.aload_n 1, 1) := by decide +kernel
theorem dX0_copyFrom_174 : decode cX0_copyFrom 174 = .ok (.getfield 77, 3) := by decide +kernel
theorem dX0_copyFrom_177 : decode cX0_copyFrom 177 = .ok (.putfield 77, 3) := by decide +kernel
theorem dX0_copyFrom_180 : decode cX0_copyFrom 180 = .ok (.aload_n 0, 1) := by decide +kernel
theorem dX0_copyFrom_181 : decode cX0_copyFrom 181 = .ok (.aload_n 1, 1) := by decide +kernel
theorem dX0_copyFrom_182 : decode cX0_copyFrom 182 = .ok (.getfield 80, 3) := by decide +kernel
theorem dX0_copyFrom_185 : decode cX0_copyFrom 185 = .ok (.putfield 80, 3) := by decide +kernel
theorem dX0_copyFrom_188 : decode cX0_copyFrom 188 = .ok (.aload_n 0, 1) := by decide +kernel
theorem dX0_copyFrom_189 : decode cX0_copyFrom 189 = .ok (.aload_n 1, 1) := by decide +kernel
theorem dX0_copyFrom_190 : decode cX0_copyFrom 190 = .ok (.getfield 83, 3) := by decide +kernel
theorem dX0_copyFrom_193 : decode cX0_copyFrom 193 = .ok (.putfield 83, 3) := by decide +kernel
theorem dX0_copyFrom_196 : decode cX0_copyFrom 196 = .ok (.aload_n 0, 1) := by decide +kernel
theorem dX0_copyFrom_197 : decode cX0_copyFrom 197 = .ok (.aload_n 1, 1) := by decide +kernel
theorem dX0_copyFrom_198 : decode cX0_copyFrom 198 = .ok (.getfield 86, 3) := by decide +kernel
theorem dX0_copyFrom_201 : decode cX0_copyFrom 201 = .ok (.putfield 86, 3) := by decide +kernel
theorem dX0_copyFrom_204 : decode cX0_copyFrom 204 = .ok (.return_, 1) := by decide +kernel
theorem dX0_letBear_0 : decode cX0_letBear 0 = .ok (.aload_n 0, 1) := by decide +kernel
theorem dX0_letBear_1 : decode cX0_letBear 1 = .ok (.getfield 9, 3) := by decide +kernel
theorem dX0_letBear_4 : decode cX0_letBear 4 = .ok (.iload_n 1, 1) := by decide +kernel
theorem dX0_letBear_5 : decode cX0_letBear 5 = .ok (.iload_n 2, 1) := by decide +kernel
theorem dX0_letBear_6 : decode cX0_letBear 6 = .ok (.iastore, 1) := by decide +kernel
theorem dX0_letBear_7 : decode cX0_letBear 7 = .ok (.iload_n 2, 1) := by decide +kernel
theorem dX0_letBear_8 : decode cX0_letBear 8 = .ok (.ifCond .ne 28, 3) := by decide +kernel
theorem dX0_letBear_11 : decode cX0_letBear 11 = .ok (.aload_n 0, 1) := by decide +kernel
theorem dX0_letBear_12 : decode cX0_letBear 12 = .ok (.iload_n 1, 1) := by decide +kernel
theorem dX0_letBear_13 : decode cX0_letBear 13 = .ok (.invokevirtual 89, 3) := by decide +kernel
theorem dX0_letBear_16 : decode cX0_letBear 16 = .ok (.ifCond .eq 20, 3) := by decide +kernel
theorem dX0_letBear_19 : decode cX0_letBear 19 = .ok (.aload_n 0, 1) := by decide +kernel
theorem dX0_letBear_20 : decode cX0_letBear 20 = .ok (.getfield 15, 3) := by decide +kernel
theorem dX0_letBear_23 : decode cX0_letBear 23 = .ok (.iload_n 1, 1) := by decide +kernel
theorem dX0_letBear_24 : decode cX0_letBear 24 = .ok (.iconst (-1), 1) := by decide +kernel
theorem dX0_letBear_25 : decode cX0_letBear 25 = .ok (.iastore, 1) := by decide +kernel
theorem dX0_letBear_26 : decode cX0_letBear 26 = .ok (.aload_n 0, 1) := by decide +kernel
theorem dX0_letBear_27 : decode cX0_letBear 27 = .ok (.dup, 1) := by decide +kernel
theorem dX0_letBear_28 : decode cX0_letBear 28 = .ok (.getfield 83, 3) := by decide +kernel
theorem dX0_letBear_31 : decode cX0_letBear 31 = .ok (.iconst 1, 1) := by decide +kernel
theorem dX0_letBear_32 : decode cX0_letBear 32 = .ok (.iadd, 1) := by decide +kernel
theorem dX0_letBear_33 : decode cX0_letBear 33 = .ok (.putfield 83, 3) := by decide +kernel
theorem dX0_letBear_36 : decode cX0_letBear 36 = .ok (.return_, 1) := by decide +kernel
theorem dX0_toggleChimney_0 : decode cX0_toggleChimney 0 = .ok (.aload_n 0, 1) := by decide +kernel
theorem dX0_toggleChimney_1 : decode cX0_toggleChimney 1 = .ok (.dup, 1) := by decide +kernel
theorem dX0_toggleChimney_2 : decode cX0_toggleChimney 2 = .ok (.getfield 68, 3) := by decide +kernel
theorem dX0_toggleChimney_5 : decode cX0_toggleChimney 5 = .ok (.iconst 1, 1) := by decide +kernel
theorem dX0_toggleChimney_6 : decode cX0_toggleChimney 6 = .ok (.iload_n 1, 1) := by decide +kernel
theorem dX0_toggleChimney_7 : decode cX0_toggleChimney 7 = .ok (.ishl, 1) := by decide +kernel
theorem dX0_toggleChimney_8 : decode cX0_toggleChimney 8 = .ok (.ixor, 1) := by decide +kernel
theorem dX0_toggleChimney_9 : decode cX0_toggleChimney 9 = .ok (.putfield 68, 3) := by decide +kernel
theorem dX0_toggleChimney_12 : decode cX0_toggleChimney 12 = .ok (.return_, 1) := by decide +kernel
theorem dX0_setTruce_0 : decode cX0_setTruce 0 = .ok (.aload_n 0, 1) := by decide +kernel
theorem dX0_setTruce_1 : decode cX0_setTruce 1 = .ok (.iload_n 2, 1) := by decide +kernel
theorem dX0_setTruce_2 : decode cX0_setTruce 2 = .ok (.ifCond .eq 14, 3) := by decide +kernel
theorem dX0_setTruce_5 : decode cX0_setTruce 5 = .ok (.aload_n 0, 1) := by decide +kernel
theorem dX0_setTruce_6 : decode cX0_setTruce 6 = .ok (.getfield 65, 3) := by decide +kernel
theorem dX0_setTruce_9 : decode cX0_setTruce 9 = .ok (.iconst 1, 1) := by decide +kernel
theorem dX0_setTruce_10 : decode cX0_setTruce 10 = .ok (.iload_n 1, 1) := by decide +kernel
theorem dX0_setTruce_11 : decode cX0_setTruce 11 = .ok (.ishl, 1) := by decide +kernel
theorem dX0_setTruce_12 : decode cX0_setTruce 12 = .ok (.ior, 1) := by decide +kernel
theorem dX0_setTruce_13 : decode cX0_setTruce 13 = .ok (.goto 13, 3) := by decide +kernel
theorem dX0_setTruce_16 : decode cX0_setTruce 16 = .ok (.aload_n 0, 1) := by decide +kernel
theorem dX0_setTruce_17 : decode cX0_setTruce 17 = .ok (.getfield 65, 3) := by decide +kernel
theorem dX0_setTruce_20 : decode cX0_setTruce 20 = .ok (.iconst 1, 1) := by decide +kernel
theorem dX0_setTruce_21 : decode cX0_setTruce 21 = .ok (.iload_n 1, 1) := by decide +kernel
theorem dX0_setTruce_22 : decode cX0_setTruce 22 = .ok (.ishl, 1) := by decide +kernel
theorem dX0_setTruce_23 : decode cX0_setTruce 23 = .ok (.iconst (-1), 1) := by decide +kernel
theorem dX0_setTruce_24 : decode cX0_setTruce 24 = .ok (.ixor, 1) := by decide +kernel
theorem dX0_setTruce_25 : decode cX0_setTruce 25 = .ok (.iand, 1) := by decide +kernel
theorem dX0_setTruce_26 : decode cX0_setTruce 26 = .ok (.putfield 65, 3) := by decide +kernel
theorem dX0_setTruce_29 : decode cX0_setTruce 29 = .ok (.return_, 1) := by decide +kernel
theorem dX0_hasLine_0 : decode cX0_hasLine 0 = .ok (.aload_n 0, 1) := by decide +kernel
theorem dX0_hasLine_1 : decode cX0_hasLine 1 = .ok (.getfield 15, 3) := by decide +kernel
theorem dX0_hasLine_4 : decode cX0_hasLine 4 = .ok (.iload_n 1, 1) := by decide +kernel
theorem dX0_hasLine_5 : decode cX0_hasLine 5 = .ok (.iaload, 1) := by decide +kernel
theorem dX0_hasLine_6 : decode cX0_hasLine 6 = .ok (.iconst (-1), 1) := by decide +kernel
theorem dX0_hasLine_7 : decode cX0_hasLine 7 = .ok (.if_icmp .eq 7, 3) := by decide +kernel
theorem dX0_hasLine_10 : decode cX0_hasLine 10 = .ok (.iconst 1, 1) := by decide +kernel
theorem dX0_hasLine_11 : decode cX0_hasLine 11 = .ok (.goto 4, 3) := by decide +kernel
theorem dX0_hasLine_14 : decode cX0_hasLine 14 = .ok (.iconst 0, 1) := by decide +kernel
theorem dX0_hasLine_15 : decode cX0_hasLine 15 = .ok (.ireturn, 1) := by decide +kernel
theorem dX0_isThere_0 : decode cX0_isThere 0 = .ok (.aload_n 0, 1) := by decide +kernel
theorem dX0_isThere_1 : decode cX0_isThere 1 = .ok (.getfield 9, 3) := by decide +kernel
theorem dX0_isThere_4 : decode cX0_isThere 4 = .ok (.iload_n 1, 1) := by decide +kernel
theorem dX0_isThere_5 : decode cX0_isThere 5 = .ok (.iaload, 1) := by decide +kernel
theorem dX0_isThere_6 : decode cX0_isThere 6 = .ok (.ifCond .le 7, 3) := by decide +kernel
theorem dX0_isThere_9 : decode cX0_isThere 9 = .ok (.iconst 1, 1) := by decide +kernel
theorem dX0_isThere_10 : decode cX0_isThere 10 = .ok (.goto 4, 3) := by decide +kernel
theorem dX0_isThere_13 : decode cX0_isThere 13 = .ok (.iconst 0, 1) := by decide +kernel
theorem dX0_isThere_14 : decode cX0_isThere 14 = .ok (.ireturn, 1) := by decide +kernel
theorem dX0_smokeBlown_0 : decode cX0_smokeBlown 0 = .ok (.iconst 0, 1) := by decide +kernel
theorem dX0_smokeBlown_1 : decode cX0_smokeBlown 1 = .ok (.istore_n 2, 1) := by decide +kernel
theorem dX0_smokeBlown_2 : decode cX0_smokeBlown 2 = .ok (.iconst 0, 1) := by decide +kernel
theorem dX0_smokeBlown_3 : decode cX0_smokeBlown 3 = .ok (.istore_n 3, 1) := by decide +kernel
theorem dX0_smokeBlown_4 : decode cX0_smokeBlown 4 = .ok (.iload_n 3, 1) := by decide +kernel
theorem dX0_smokeBlown_5 : decode cX0_smokeBlown 5 = .ok (.bipush 16, 2) := by decide +kernel
theorem dX0_smokeBlown_7 : decode cX0_smokeBlown 7 = .ok (.if_icmp .ge 32, 3) := by decide +kernel
theorem dX0_smokeBlown_10 : decode cX0_smokeBlown 10 = .ok (.aload_n 0, 1) := by decide +kernel
theorem dX0_smokeBlown_11 : decode cX0_smokeBlown 11 = .ok (.getfield 68, 3) := by decide +kernel
theorem dX0_smokeBlown_14 : decode cX0_smokeBlown 14 = .ok (.iload_n 3, 1) := by decide +kernel
theorem dX0_smokeBlown_15 : decode cX0_smokeBlown 15 = .ok (.invokestatic 92, 3) := by decide +kernel
theorem dX0_smokeBlown_18 : decode cX0_smokeBlown 18 = .ok (.ifCond .eq 15, 3) := by decide +kernel
theorem dX0_smokeBlown_21 : decode cX0_smokeBlown 21 = .ok (.iload_n 2, 1) := by decide +kernel
theorem dX0_smokeBlown_22 : decode cX0_smokeBlown 22 = .ok (.iload_n 3, 1) := by decide +kernel
theorem dX0_smokeBlown_23 : decode cX0_smokeBlown 23 = .ok (.iload_n 1, 1) := by decide +kernel
theorem dX0_smokeBlown_24 : decode cX0_smokeBlown 24 = .ok (.aload_n 0, 1) := by decide +kernel
theorem dX0_smokeBlown_25 : decode cX0_smokeBlown 25 = .ok (.getfield 40, 3) := by decide +kernel
theorem dX0_smokeBlown_28 : decode cX0_smokeBlown 28 = .ok (.invokestatic 96, 3) := by decide +kernel
theorem dX0_smokeBlown_31 : decode cX0_smokeBlown 31 = .ok (.ior, 1) := by decide +kernel
theorem dX0_smokeBlown_32 : decode cX0_smokeBlown 32 = .ok (.istore_n 2, 1) := by decide +kernel
theorem dX0_smokeBlown_33 : decode cX0_smokeBlown 33 = .ok (.iinc 3 1, 3) := by decide +kernel
theorem dX0_smokeBlown_36 : decode cX0_smokeBlown 36 = .ok (.goto (-32), 3) := by decide +kernel
theorem dX0_smokeBlown_39 : decode cX0_smokeBlown 39 = .ok (.iload_n 2, 1) := by decide +kernel
theorem dX0_smokeBlown_40 : decode cX0_smokeBlown 40 = .ok (.ireturn, 1) := by decide +kernel
theorem dX0_chimneysSmoking_0 : decode cX0_chimneysSmoking 0 = .ok (.iconst 0, 1) := by decide +kernel
theorem dX0_chimneysSmoking_1 : decode cX0_chimneysSmoking 1 = .ok (.istore_n 2, 1) := by decide +kernel
theorem dX0_chimneysSmoking_2 : decode cX0_chimneysSmoking 2 = .ok (.iconst 0, 1) := by decide +kernel
theorem dX0_chimneysSmoking_3 : decode cX0_chimneysSmoking 3 = .ok (.istore_n 3, 1) := by decide +kernel
theorem dX0_chimneysSmoking_4 : decode cX0_chimneysSmoking 4 = .ok (.iload_n 3, 1) := by decide +kernel
theorem dX0_chimneysSmoking_5 : decode cX0_chimneysSmoking 5 = .ok (.bipush 16, 2) := by decide +kernel
theorem dX0_chimneysSmoking_7 : decode cX0_chimneysSmoking 7 = .ok (.if_icmp .ge 42, 3) := by decide +kernel
theorem dX0_chimneysSmoking_10 : decode cX0_chimneysSmoking 10 = .ok (.aload_n 0, 1) := by decide +kernel
theorem dX0_chimneysSmoking_11 : decode cX0_chimneysSmoking 11 = .ok (.getfield 68, 3) := by decide +kernel
theorem dX0_chimneysSmoking_14 : decode cX0_chimneysSmoking 14 = .ok (.iload_n 3, 1) := by decide +kernel
theorem dX0_chimneysSmoking_15 : decode cX0_chimneysSmoking 15 = .ok (.invokestatic 92, 3) := by decide +kernel
theorem dX0_chimneysSmoking_18 : decode cX0_chimneysSmoking 18 = .ok (.ifCond .eq 25, 3) := by decide +kernel
theorem dX0_chimneysSmoking_21 : decode cX0_chimneysSmoking 21 = .ok (.iload_n 3, 1) := by decide +kernel
theorem dX0_chimneysSmoking_22 : decode cX0_chimneysSmoking 22 = .ok (.aload_n 0, 1) := by decide +kernel
theorem dX0_chimneysSmoking_23 : decode cX0_chimneysSmoking 23 = .ok (.getfield 36, 3) := by decide +kernel
theorem dX0_chimneysSmoking_26 : decode cX0_chimneysSmoking 26 = .ok (.aload_n 0, 1) := by decide +kernel
theorem dX0_chimneysSmoking_27 : decode cX0_chimneysSmoking 27 = .ok (.getfield 40, 3) := by decide +kernel
theorem dX0_chimneysSmoking_30 : decode cX0_chimneysSmoking 30 = .ok (.invokestatic 96, 3) := by decide +kernel
theorem dX0_chimneysSmoking_33 : decode cX0_chimneysSmoking 33 = .ok (.iload_n 1, 1) := by decide +kernel
theorem dX0_chimneysSmoking_34 : decode cX0_chimneysSmoking 34 = .ok (.invokestatic 92, 3) := by decide +kernel
theorem dX0_chimneysSmoking_37 : decode cX0_chimneysSmoking 37 = .ok (.ifCond .eq 6, 3) := by decide +kernel
theorem dX0_chimneysSmoking_40 : decode cX0_chimneysSmoking 40 = .ok (.iinc 2 1, 3) := by decide +kernel
theorem dX0_chimneysSmoking_43 : decode cX0_chimneysSmoking 43 = .ok (.iinc 3 1, 3) := by decide +kernel
theorem dX0_chimneysSmoking_46 : decode cX0_chimneysSmoking 46 = .ok (.goto (-42), 3) := by decide +kernel
theorem dX0_chimneysSmoking_49 : decode cX0_chimneysSmoking 49 = .ok (.iload_n 2, 1) := by decide +kernel
theorem dX0_chimneysSmoking_50 : decode cX0_chimneysSmoking 50 = .ok (.ireturn, 1) := by decide +kernel
theorem dX0_windsSmoking_0 : decode cX0_windsSmoking 0 = .ok (.iconst 0, 1) := by decide +kernel
theorem dX0_windsSmoking_1 : decode cX0_windsSmoking 1 = .ok (.istore_n 2, 1) := by decide +kernel
theorem dX0_windsSmoking_2 : decode cX0_windsSmoking 2 = .ok (.iconst 0, 1) := by decide +kernel
theorem dX0_windsSmoking_3 : decode cX0_windsSmoking 3 = .ok (.istore_n 3, 1) := by decide +kernel
theorem dX0_windsSmoking_4 : decode cX0_windsSmoking 4 = .ok (.iload_n 3, 1) := by decide +kernel
theorem dX0_windsSmoking_5 : decode cX0_windsSmoking 5 = .ok (.iconst 4, 1) := by decide +kernel
theorem dX0_windsSmoking_6 : decode cX0_windsSmoking 6 = .ok (.if_icmp .ge 25, 3) := by decide +kernel
theorem dX0_windsSmoking_9 : decode cX0_windsSmoking 9 = .ok (.aload_n 0, 1) := by decide +kernel
theorem dX0_windsSmoking_10 : decode cX0_windsSmoking 10 = .ok (.iload_n 3, 1) := by decide +kernel
theorem dX0_windsSmoking_11 : decode cX0_windsSmoking 11 = .ok (.invokevirtual 100, 3) := by decide +kernel
theorem dX0_windsSmoking_14 : decode cX0_windsSmoking 14 = .ok (.iload_n 1, 1) := by decide +kernel
theorem dX0_windsSmoking_15 : decode cX0_windsSmoking 15 = .ok (.invokestatic 104, 3) := by decide +kernel
theorem dX0_windsSmoking_18 : decode cX0_windsSmoking 18 = .ok (.iand, 1) := by decide +kernel
theorem dX0_windsSmoking_19 : decode cX0_windsSmoking 19 = .ok (.ifCond .eq 6, 3) := by decide +kernel
theorem dX0_windsSmoking_22 : decode cX0_windsSmoking 22 = .ok (.iinc 2 1, 3) := by decide +kernel
theorem dX0_windsSmoking_25 : decode cX0_windsSmoking 25 = .ok (.iinc 3 1, 3) := by decide +kernel
theorem dX0_windsSmoking_28 : decode cX0_windsSmoking 28 = .ok (.goto (-24), 3) := by decide +kernel
theorem dX0_windsSmoking_31 : decode cX0_windsSmoking 31 = .ok (.iload_n 2, 1) := by decide +kernel
theorem dX0_windsSmoking_32 : decode cX0_windsSmoking 32 = .ok (.ireturn, 1) := by decide +kernel
theorem dX0_isNearCoop_0 : decode cX0_isNearCoop 0 = .ok (.iload_n 1, 1) := by decide +kernel
theorem dX0_isNearCoop_1 : decode cX0_isNearCoop 1 = .ok (.invokestatic 107, 3) := by decide +kernel
theorem dX0_isNearCoop_4 : decode cX0_isNearCoop 4 = .ok (.invokestatic 110, 3) := by decide +kernel
theorem dX0_isNearCoop_7 : decode cX0_isNearCoop 7 = .ok (.iload_n 1, 1) := by decide +kernel
theorem dX0_isNearCoop_8 : decode cX0_isNearCoop 8 = .ok (.invokestatic 113, 3) := by decide +kernel
theorem dX0_isNearCoop_11 : decode cX0_isNearCoop 11 = .ok (.invokestatic 110, 3) := by decide +kernel
theorem dX0_isNearCoop_14 : decode cX0_isNearCoop 14 = .ok (.ior, 1) := by decide +kernel
theorem dX0_isNearCoop_15 : decode cX0_isNearCoop 15 = .ok (.istore_n 2, 1) := by decide +kernel
theorem dX0_isNearCoop_16 : decode cX0_isNearCoop 16 = .ok (.aload_n 0, 1) := by decide +kernel
theorem dX0_isNearCoop_17 : decode cX0_isNearCoop 17 = .ok (.getfield 71, 3) := by decide +kernel
theorem dX0_isNearCoop_20 : decode cX0_isNearCoop 20 = .ok (.iload_n 2, 1) := by decide +kernel
theorem dX0_isNearCoop_21 : decode cX0_isNearCoop 21 = .ok (.iand, 1) := by decide +kernel
theorem dX0_isNearCoop_22 : decode cX0_isNearCoop 22 = .ok (.ifCond .eq 7, 3) := by decide +kernel
theorem dX0_isNearCoop_25 : decode cX0_isNearCoop 25 = .ok (.iconst 1, 1) := by decide +kernel
theorem dX0_isNearCoop_26 : decode cX0_isNearCoop 26 = .ok (.goto 4, 3) := by decide +kernel
theorem dX0_isNearCoop_29 : decode cX0_isNearCoop 29 = .ok (.iconst 0, 1) := by decide +kernel
theorem dX0_isNearCoop_30 : decode cX0_isNearCoop 30 = .ok (.ireturn, 1) := by decide +kernel
theorem dX0_reasonNotToHang_0 : decode cX0_reasonNotToHang 0 = .ok (.iload_n 2, 1) := by decide +kernel
theorem dX0_reasonNotToHang_1 : decode cX0_reasonNotToHang 1 = .ok (.invokestatic 104, 3) := by decide +kernel
theorem dX0_reasonNotToHang_4 : decode cX0_reasonNotToHang 4 = .ok (.istore_n 3, 1) := by decide +kernel
theorem dX0_reasonNotToHang_5 : decode cX0_reasonNotToHang 5 = .ok (.aload_n 0, 1) := by decide +kernel
theorem dX0_reasonNotToHang_6 : decode cX0_reasonNotToHang 6 = .ok (.iload_n 2, 1) := by decide +kernel
theorem dX0_reasonNotToHang_7 : decode cX0_reasonNotToHang 7 = .ok (.invokevirtual 116, 3) := by decide +kernel
theorem dX0_reasonNotToHang_10 : decode cX0_reasonNotToHang 10 = .ok (.ifCond .ne 5, 3) := by decide +kernel
theorem dX0_reasonNotToHang_13 : decode cX0_reasonNotToHang 13 = .ok (.iconst 1, 1) := by decide +kernel
theorem dX0_reasonNotToHang_14 : decode cX0_reasonNotToHang 14 = .ok (.ireturn, 1) := by decide +kernel
theorem dX0_reasonNotToHang_15 : decode cX0_reasonNotToHang 15 = .ok (.aload_n 0, 1) := by decide +kernel
theorem dX0_reasonNotToHang_16 : decode cX0_reasonNotToHang 16 = .ok (.iload_n 2, 1) := by decide +kernel
theorem dX0_reasonNotToHang_17 : decode cX0_reasonNotToHang 17 = .ok (.invokevirtual 89, 3) := by decide +kernel
theorem dX0_reasonNotToHang_20 : decode cX0_reasonNotToHang 20 = .ok (.ifCond .eq 5, 3) := by decide +kernel
theorem dX0_reasonNotToHang_23 : decode cX0_reasonNotToHang 23 = .ok (.iconst 2, 1) := by decide +kernel
theorem dX0_reasonNotToHang_24 : decode cX0_reasonNotToHang 24 = .ok (.ireturn, 1) := by decide +kernel
theorem dX0_reasonNotToHang_25 : decode cX0_reasonNotToHang 25 = .ok (.aload_n 0, 1) := by decide +kernel
theorem dX0_reasonNotToHang_26 : decode cX0_reasonNotToHang 26 = .ok (.getfield 27, 3) := by decide +kernel
theorem dX0_reasonNotToHang_29 : decode cX0_reasonNotToHang 29 = .ok (.iload_n 1, 1) := by decide +kernel
theorem dX0_reasonNotToHang_30 : decode cX0_reasonNotToHang 30 = .ok (.iaload, 1) := by decide +kernel
theorem dX0_reasonNotToHang_31 : decode cX0_reasonNotToHang 31 = .ok (.iload_n 3, 1) := by decide +kernel
theorem dX0_reasonNotToHang_32 : decode cX0_reasonNotToHang 32 = .ok (.iand, 1) := by decide +kernel
theorem dX0_reasonNotToHang_33 : decode cX0_reasonNotToHang 33 = .ok (.iload_n 3, 1) := by decide +kernel
theorem dX0_reasonNotToHang_34 : decode cX0_reasonNotToHang 34 = .ok (.if_icmp .eq 5, 3) := by decide +kernel
theorem dX0_reasonNotToHang_37 : decode cX0_reasonNotToHang 37 = .ok (.iconst 3, 1) := by decide +kernel
theorem dX0_reasonNotToHang_38 : decode cX0_reasonNotToHang 38 = .ok (.ireturn, 1) := by decide +kernel
theorem dX0_reasonNotToHang_39 : decode cX0_reasonNotToHang 39 = .ok (.aload_n 0, 1) := by decide +kernel
theorem dX0_reasonNotToHang_40 : decode cX0_reasonNotToHang 40 = .ok (.aload_n 0, 1) := by decide +kernel
theorem dX0_reasonNotToHang_41 : decode cX0_reasonNotToHang 41 = .ok (.getfield 36, 3) := by decide +kernel
theorem dX0_reasonNotToHang_44 : decode cX0_reasonNotToHang 44 = .ok (.invokevirtual 100, 3) := by decide +kernel
theorem dX0_reasonNotToHang_47 : decode cX0_reasonNotToHang 47 = .ok (.iload_n 3, 1) := by decide +kernel
theorem dX0_reasonNotToHang_48 : decode cX0_reasonNotToHang 48 = .ok (.iand, 1) := by decide +kernel
theorem dX0_reasonNotToHang_49 : decode cX0_reasonNotToHang 49 = .ok (.ifCond .eq 5, 3) := by decide +kernel
theorem dX0_reasonNotToHang_52 : decode cX0_reasonNotToHang 52 = .ok (.iconst 4, 1) := by decide +kernel
theorem dX0_reasonNotToHang_53 : decode cX0_reasonNotToHang 53 = .ok (.ireturn, 1) := by decide +kernel
theorem dX0_reasonNotToHang_54 : decode cX0_reasonNotToHang 54 = .ok (.aload_n 0, 1) := by decide +kernel
theorem dX0_reasonNotToHang_55 : decode cX0_reasonNotToHang 55 = .ok (.getfield 65, 3) := by decide +kernel
theorem dX0_reasonNotToHang_58 : decode cX0_reasonNotToHang 58 = .ok (.iload_n 1, 1) := by decide +kernel
theorem dX0_reasonNotToHang_59 : decode cX0_reasonNotToHang 59 = .ok (.invokestatic 92, 3) := by decide +kernel
theorem dX0_reasonNotToHang_62 : decode cX0_reasonNotToHang 62 = .ok (.ifCond .ne 13, 3) := by decide +kernel
theorem dX0_reasonNotToHang_65 : decode cX0_reasonNotToHang 65 = .ok (.aload_n 0, 1) := by decide +kernel
theorem dX0_reasonNotToHang_66 : decode cX0_reasonNotToHang 66 = .ok (.iload_n 2, 1) := by decide +kernel
theorem dX0_reasonNotToHang_67 : decode cX0_reasonNotToHang 67 = .ok (.invokevirtual 119, 3) := by decide +kernel
theorem dX0_reasonNotToHang_70 : decode cX0_reasonNotToHang 70 = .ok (.ifCond .eq 5, 3) := by decide +kernel
theorem dX0_reasonNotToHang_73 : decode cX0_reasonNotToHang 73 = .ok (.iconst 5, 1) := by decide +kernel
theorem dX0_reasonNotToHang_74 : decode cX0_reasonNotToHang 74 = .ok (.ireturn, 1) := by decide +kernel
theorem dX0_reasonNotToHang_75 : decode cX0_reasonNotToHang 75 = .ok (.iconst 0, 1) := by decide +kernel
theorem dX0_reasonNotToHang_76 : decode cX0_reasonNotToHang 76 = .ok (.ireturn, 1) := by decide +kernel
theorem dX0_hangLine_0 : decode cX0_hangLine 0 = .ok (.aload_n 0, 1) := by decide +kernel
theorem dX0_hangLine_1 : decode cX0_hangLine 1 = .ok (.iload_n 1, 1) := by decide +kernel
theorem dX0_hangLine_2 : decode cX0_hangLine 2 = .ok (.iload_n 2, 1) := by decide +kernel
theorem dX0_hangLine_3 : decode cX0_hangLine 3 = .ok (.invokevirtual 122, 3) := by decide +kernel
theorem dX0_hangLine_6 : decode cX0_hangLine 6 = .ok (.istore_n 3, 1) := by decide +kernel
theorem dX0_hangLine_7 : decode cX0_hangLine 7 = .ok (.iload_n 3, 1) := by decide +kernel
theorem dX0_hangLine_8 : decode cX0_hangLine 8 = .ok (.ifCond .eq 15, 3) := by decide +kernel
theorem dX0_hangLine_11 : decode cX0_hangLine 11 = .ok (.aload_n 0, 1) := by decide +kernel
theorem dX0_hangLine_12 : decode cX0_hangLine 12 = .ok (.dup, 1) := by decide +kernel
theorem dX0_hangLine_13 : decode cX0_hangLine 13 = .ok (.getfield 86, 3) := by decide +kernel
theorem dX0_hangLine_16 : decode cX0_hangLine 16 = .ok (.iconst 1, 1) := by decide +kernel
theorem dX0_hangLine_17 : decode cX0_hangLine 17 = .ok (.iadd, 1) := by decide +kernel
theorem dX0_hangLine_18 : decode cX0_hangLine 18 = .ok (.putfield 86, 3) := by decide +kernel
theorem dX0_hangLine_21 : decode cX0_hangLine 21 = .ok (.iload_n 3, 1) := by decide +kernel
theorem dX0_hangLine_22 : decode cX0_hangLine 22 = .ok (.ireturn, 1) := by decide +kernel
theorem dX0_hangLine_23 : decode cX0_hangLine 23 = .ok (.aload_n 0, 1) := by decide +kernel
theorem dX0_hangLine_24 : decode cX0_hangLine 24 = .ok (.getfield 15, 3) := by decide +kernel
theorem dX0_hangLine_27 : decode cX0_hangLine 27 = .ok (.iload_n 2, 1) := by decide +kernel
theorem dX0_hangLine_28 : decode cX0_hangLine 28 = .ok (.iload_n 1, 1) := by decide +kernel
theorem dX0_hangLine_29 : decode cX0_hangLine 29 = .ok (.iastore, 1) := by decide +kernel
theorem dX0_hangLine_30 : decode cX0_hangLine 30 = .ok (.aload_n 0, 1) := by decide +kernel
theorem dX0_hangLine_31 : decode cX0_hangLine 31 = .ok (.getfield 18, 3) := by decide +kernel
theorem dX0_hangLine_34 : decode cX0_hangLine 34 = .ok (.iload_n 2, 1) := by decide +kernel
theorem dX0_hangLine_35 : decode cX0_hangLine 35 = .ok (.iconst 0, 1) := by decide +kernel
theorem dX0_hangLine_36 : decode cX0_hangLine 36 = .ok (.iastore, 1) := by decide +kernel
theorem dX0_hangLine_37 : decode cX0_hangLine 37 = .ok (.aload_n 0, 1) := by decide +kernel
theorem dX0_hangLine_38 : decode cX0_hangLine 38 = .ok (.getfield 21, 3) := by decide +kernel
theorem dX0_hangLine_41 : decode cX0_hangLine 41 = .ok (.iload_n 2, 1) := by decide +kernel
theorem dX0_hangLine_42 : decode cX0_hangLine 42 = .ok (.iconst 0, 1) := by decide +kernel
theorem dX0_hangLine_43 : decode cX0_hangLine 43 = .ok (.iastore, 1) := by decide +kernel
theorem dX0_hangLine_44 : decode cX0_hangLine 44 = .ok (.aload_n 0, 1) := by decide +kernel
theorem dX0_hangLine_45 : decode cX0_hangLine 45 = .ok (.dup, 1) := by decide +kernel
theorem dX0_hangLine_46 : decode cX0_hangLine 46 = .ok (.getfield 77, 3) := by decide +kernel
theorem dX0_hangLine_49 : decode cX0_hangLine 49 = .ok (.iconst 1, 1) := by decide +kernel
theorem dX0_hangLine_50 : decode cX0_hangLine 50 = .ok (.iadd, 1) := by decide +kernel
theorem dX0_hangLine_51 : decode cX0_hangLine 51 = .ok (.putfield 77, 3) := by decide +kernel
theorem dX0_hangLine_54 : decode cX0_hangLine 54 = .ok (.bipush 10, 2) := by decide +kernel
theorem dX0_hangLine_56 : decode cX0_hangLine 56 = .ok (.aload_n 0, 1) := by decide +kernel
theorem dX0_hangLine_57 : decode cX0_hangLine 57 = .ok (.invokevirtual 126, 3) := by decide +kernel
theorem dX0_hangLine_60 : decode cX0_hangLine 60 = .ok (.invokestatic 130, 3) := by decide +kernel
theorem dX0_hangLine_63 : decode cX0_hangLine 63 = .ok (.iadd, 1) := by decide +kernel
theorem dX0_hangLine_64 : decode cX0_hangLine 64 = .ok (.ireturn, 1) := by decide +kernel
theorem dX0_takeLine_0 : decode cX0_takeLine 0 = .ok (.aload_n 0, 1) := by decide +kernel
theorem dX0_takeLine_1 : decode cX0_takeLine 1 = .ok (.iload_n 2, 1) := by decide +kernel
theorem dX0_takeLine_2 : decode cX0_takeLine 2 = .ok (.invokevirtual 89, 3) := by decide +kernel
theorem dX0_takeLine_5 : decode cX0_takeLine 5 = .ok (.ifCond .ne 16, 3) := by decide +kernel
theorem dX0_takeLine_8 : decode cX0_takeLine 8 = .ok (.aload_n 0, 1) := by decide +kernel
theorem dX0_takeLine_9 : decode cX0_takeLine 9 = .ok (.dup, 1) := by decide +kernel
theorem dX0_takeLine_10 : decode cX0_takeLine 10 = .ok (.getfield 86, 3) := by decide +kernel
theorem dX0_takeLine_13 : decode cX0_takeLine 13 = .ok (.iconst 1, 1) := by decide +kernel
theorem dX0_takeLine_14 : decode cX0_takeLine 14 = .ok (.iadd, 1) := by decide +kernel
theorem dX0_takeLine_15 : decode cX0_takeLine 15 = .ok (.putfield 86, 3) := by decide +kernel
theorem dX0_takeLine_18 : decode cX0_takeLine 18 = .ok (.bipush 6, 2) := by decide +kernel
theorem dX0_takeLine_20 : decode cX0_takeLine 20 = .ok (.ireturn, 1) := by decide +kernel
theorem dX0_takeLine_21 : decode cX0_takeLine 21 = .ok (.aload_n 0, 1) := by decide +kernel
theorem dX0_takeLine_22 : decode cX0_takeLine 22 = .ok (.getfield 15, 3) := by decide +kernel
theorem dX0_takeLine_25 : decode cX0_takeLine 25 = .ok (.iload_n 2, 1) := by decide +kernel
theorem dX0_takeLine_26 : decode cX0_takeLine 26 = .ok (.iaload, 1) := by decide +kernel
theorem dX0_takeLine_27 : decode cX0_takeLine 27 = .ok (.iload_n 1, 1) := by decide +kernel
theorem dX0_takeLine_28 : decode cX0_takeLine 28 = .ok (.if_icmp .eq 16, 3) := by decide +kernel
theorem dX0_takeLine_31 : decode cX0_takeLine 31 = .ok (.aload_n 0, 1) := by decide +kernel
theorem dX0_takeLine_32 : decode cX0_takeLine 32 = .ok (.dup, 1) := by decide +kernel
theorem dX0_takeLine_33 : decode cX0_takeLine 33 = .ok (.getfield 86, 3) := by decide +kernel
theorem dX0_takeLine_36 : decode cX0_takeLine 36 = .ok (.iconst 1, 1) := by decide +kernel
theorem dX0_takeLine_37 : decode cX0_takeLine 37 = .ok (.iadd, 1) := by decide +kernel
theorem dX0_takeLine_38 : decode cX0_takeLine 38 = .ok (.putfield 86, 3) := by decide +kernel
theorem dX0_takeLine_41 : decode cX0_takeLine 41 = .ok (.bipush 7, 2) := by decide +kernel
theorem dX0_takeLine_43 : decode cX0_takeLine 43 = .ok (.ireturn, 1) := by decide +kernel
theorem dX0_takeLine_44 : decode cX0_takeLine 44 = .ok (.aload_n 0, 1) := by decide +kernel
theorem dX0_takeLine_45 : decode cX0_takeLine 45 = .ok (.getfield 15, 3) := by decide +kernel
theorem dX0_takeLine_48 : decode cX0_takeLine 48 = .ok (.iload_n 2, 1) := by decide +kernel
theorem dX0_takeLine_49 : decode cX0_takeLine 49 = .ok (.iconst (-1), 1) := by decide +kernel
theorem dX0_takeLine_50 : decode cX0_takeLine 50 = .ok (.iastore, 1) := by decide +kernel
theorem dX0_takeLine_51 : decode cX0_takeLine 51 = .ok (.aload_n 0, 1) := by decide +kernel
theorem dX0_takeLine_52 : decode cX0_takeLine 52 = .ok (.dup, 1) := by decide +kernel
theorem dX0_takeLine_53 : decode cX0_takeLine 53 = .ok (.getfield 80, 3) := by decide +kernel
theorem dX0_takeLine_56 : decode cX0_takeLine 56 = .ok (.iconst 1, 1) := by decide +kernel
theorem dX0_takeLine_57 : decode cX0_takeLine 57 = .ok (.iadd, 1) := by decide +kernel
theorem dX0_takeLine_58 : decode cX0_takeLine 58 = .ok (.putfield 80, 3) := by decide +kernel
theorem dX0_takeLine_61 : decode cX0_takeLine 61 = .ok (.bipush 10, 2) := by decide +kernel
theorem dX0_takeLine_63 : decode cX0_takeLine 63 = .ok (.aload_n 0, 1) := by decide +kernel
theorem dX0_takeLine_64 : decode cX0_takeLine 64 = .ok (.getfield 18, 3) := by decide +kernel
theorem dX0_takeLine_67 : decode cX0_takeLine 67 = .ok (.iload_n 2, 1) := by decide +kernel
theorem dX0_takeLine_68 : decode cX0_takeLine 68 = .ok (.iaload, 1) := by decide +kernel
theorem dX0_takeLine_69 : decode cX0_takeLine 69 = .ok (.iadd, 1) := by decide +kernel
theorem dX0_takeLine_70 : decode cX0_takeLine 70 = .ok (.aload_n 0, 1) := by decide +kernel
theorem dX0_takeLine_71 : decode cX0_takeLine 71 = .ok (.getfield 21, 3) := by decide +kernel
theorem dX0_takeLine_74 : decode cX0_takeLine 74 = .ok (.iload_n 2, 1) := by decide +kernel
theorem dX0_takeLine_75 : decode cX0_takeLine 75 = .ok (.iaload, 1) := by decide +kernel
theorem dX0_takeLine_76 : decode cX0_takeLine 76 = .ok (.iadd, 1) := by decide +kernel
theorem dX0_takeLine_77 : decode cX0_takeLine 77 = .ok (.ireturn, 1) := by decide +kernel
theorem dX0_standsAt_0 : decode cX0_standsAt 0 = .ok (.iload_n 2, 1) := by decide +kernel
theorem dX0_standsAt_1 : decode cX0_standsAt 1 = .ok (.invokestatic 104, 3) := by decide +kernel
theorem dX0_standsAt_4 : decode cX0_standsAt 4 = .ok (.aload_n 0, 1) := by decide +kernel
theorem dX0_standsAt_5 : decode cX0_standsAt 5 = .ok (.getfield 30, 3) := by decide +kernel
theorem dX0_standsAt_8 : decode cX0_standsAt 8 = .ok (.iload_n 1, 1) := by decide +kernel
theorem dX0_standsAt_9 : decode cX0_standsAt 9 = .ok (.iaload, 1) := by decide +kernel
theorem dX0_standsAt_10 : decode cX0_standsAt 10 = .ok (.invokestatic 92, 3) := by decide +kernel
theorem dX0_standsAt_13 : decode cX0_standsAt 13 = .ok (.ireturn, 1) := by decide +kernel
theorem dX0_reasonNotToWalk_0 : decode cX0_reasonNotToWalk 0 = .ok (.aload_n 0, 1) := by decide +kernel
theorem dX0_reasonNotToWalk_1 : decode cX0_reasonNotToWalk 1 = .ok (.iload_n 2, 1) := by decide +kernel
theorem dX0_reasonNotToWalk_2 : decode cX0_reasonNotToWalk 2 = .ok (.invokevirtual 116, 3) := by decide +kernel
theorem dX0_reasonNotToWalk_5 : decode cX0_reasonNotToWalk 5 = .ok (.ifCond .ne 5, 3) := by decide +kernel
theorem dX0_reasonNotToWalk_8 : decode cX0_reasonNotToWalk 8 = .ok (.iconst 1, 1) := by decide +kernel
theorem dX0_reasonNotToWalk_9 : decode cX0_reasonNotToWalk 9 = .ok (.ireturn, 1) := by decide +kernel
theorem dX0_reasonNotToWalk_10 : decode cX0_reasonNotToWalk 10 = .ok (.aload_n 0, 1) := by decide +kernel
theorem dX0_reasonNotToWalk_11 : decode cX0_reasonNotToWalk 11 = .ok (.getfield 9, 3) := by decide +kernel
theorem dX0_reasonNotToWalk_14 : decode cX0_reasonNotToWalk 14 = .ok (.iload_n 2, 1) := by decide +kernel
theorem dX0_reasonNotToWalk_15 : decode cX0_reasonNotToWalk 15 = .ok (.iaload, 1) := by decide +kernel
theorem dX0_reasonNotToWalk_16 : decode cX0_reasonNotToWalk 16 = .ok (.aload_n 0, 1) := by decide +kernel
theorem dX0_reasonNotToWalk_17 : decode cX0_reasonNotToWalk 17 = .ok (.getfield 24, 3) := by decide +kernel
theorem dX0_reasonNotToWalk_20 : decode cX0_reasonNotToWalk 20 = .ok (.iload_n 1, 1) := by decide +kernel
theorem dX0_reasonNotToWalk_21 : decode cX0_reasonNotToWalk 21 = .ok (.iaload, 1) := by decide +kernel
theorem dX0_reasonNotToWalk_22 : decode cX0_reasonNotToWalk 22 = .ok (.if_icmp .ge 6, 3) := by decide +kernel
theorem dX0_reasonNotToWalk_25 : decode cX0_reasonNotToWalk 25 = .ok (.bipush 8, 2) := by decide +kernel
theorem dX0_reasonNotToWalk_27 : decode cX0_reasonNotToWalk 27 = .ok (.ireturn, 1) := by decide +kernel
theorem dX0_reasonNotToWalk_28 : decode cX0_reasonNotToWalk 28 = .ok (.aload_n 0, 1) := by decide +kernel
theorem dX0_reasonNotToWalk_29 : decode cX0_reasonNotToWalk 29 = .ok (.iload_n 2, 1) := by decide +kernel
theorem dX0_reasonNotToWalk_30 : decode cX0_reasonNotToWalk 30 = .ok (.invokevirtual 89, 3) := by decide +kernel
theorem dX0_reasonNotToWalk_33 : decode cX0_reasonNotToWalk 33 = .ok (.ifCond .eq 16, 3) := by decide +kernel
theorem dX0_reasonNotToWalk_36 : decode cX0_reasonNotToWalk 36 = .ok (.aload_n 0, 1) := by decide +kernel
theorem dX0_reasonNotToWalk_37 : decode cX0_reasonNotToWalk 37 = .ok (.getfield 15, 3) := by decide +kernel
theorem dX0_reasonNotToWalk_40 : decode cX0_reasonNotToWalk 40 = .ok (.iload_n 2, 1) := by decide +kernel
theorem dX0_reasonNotToWalk_41 : decode cX0_reasonNotToWalk 41 = .ok (.iaload, 1) := by decide +kernel
theorem dX0_reasonNotToWalk_42 : decode cX0_reasonNotToWalk 42 = .ok (.iload_n 1, 1) := by decide +kernel
theorem dX0_reasonNotToWalk_43 : decode cX0_reasonNotToWalk 43 = .ok (.if_icmp .eq 6, 3) := by decide +kernel
theorem dX0_reasonNotToWalk_46 : decode cX0_reasonNotToWalk 46 = .ok (.bipush 9, 2) := by decide +kernel
theorem dX0_reasonNotToWalk_48 : decode cX0_reasonNotToWalk 48 = .ok (.ireturn, 1) := by decide +kernel
theorem dX0_reasonNotToWalk_49 : decode cX0_reasonNotToWalk 49 = .ok (.aload_n 0, 1) := by decide +kernel
theorem dX0_reasonNotToWalk_50 : decode cX0_reasonNotToWalk 50 = .ok (.getfield 27, 3) := by decide +kernel
theorem dX0_reasonNotToWalk_53 : decode cX0_reasonNotToWalk 53 = .ok (.iload_n 1, 1) := by decide +kernel
theorem dX0_reasonNotToWalk_54 : decode cX0_reasonNotToWalk 54 = .ok (.iaload, 1) := by decide +kernel
theorem dX0_reasonNotToWalk_55 : decode cX0_reasonNotToWalk 55 = .ok (.iload_n 3, 1) := by decide +kernel
theorem dX0_reasonNotToWalk_56 : decode cX0_reasonNotToWalk 56 = .ok (.invokestatic 92, 3) := by decide +kernel
theorem dX0_reasonNotToWalk_59 : decode cX0_reasonNotToWalk 59 = .ok (.ifCond .ne 5, 3) := by decide +kernel
theorem dX0_reasonNotToWalk_62 : decode cX0_reasonNotToWalk 62 = .ok (.iconst 3, 1) := by decide +kernel
theorem dX0_reasonNotToWalk_63 : decode cX0_reasonNotToWalk 63 = .ok (.ireturn, 1) := by decide +kernel
theorem dX0_reasonNotToWalk_64 : decode cX0_reasonNotToWalk 64 = .ok (.iconst 0, 1) := by decide +kernel
theorem dX0_reasonNotToWalk_65 : decode cX0_reasonNotToWalk 65 = .ok (.ireturn, 1) := by decide +kernel
theorem dX0_walkOver_0 : decode cX0_walkOver 0 = .ok (.iload_n 2, 1) := by decide +kernel
theorem dX0_walkOver_1 : decode cX0_walkOver 1 = .ok (.aload_n 0, 1) := by decide +kernel
theorem dX0_walkOver_2 : decode cX0_walkOver 2 = .ok (.getfield 30, 3) := by decide +kernel
theorem dX0_walkOver_5 : decode cX0_walkOver 5 = .ok (.iload_n 1, 1) := by decide +kernel
theorem dX0_walkOver_6 : decode cX0_walkOver 6 = .ok (.iaload, 1) := by decide +kernel
theorem dX0_walkOver_7 : decode cX0_walkOver 7 = .ok (.invokestatic 135, 3) := by decide +kernel
theorem dX0_walkOver_10 : decode cX0_walkOver 10 = .ok (.istore_n 3, 1) := by decide +kernel
theorem dX0_walkOver_11 : decode cX0_walkOver 11 = .ok (.aload_n 0, 1) := by decide +kernel
theorem dX0_walkOver_12 : decode cX0_walkOver 12 = .ok (.iload_n 1, 1) := by decide +kernel
theorem dX0_walkOver_13 : decode cX0_walkOver 13 = .ok (.iload_n 2, 1) := by decide +kernel
theorem dX0_walkOver_14 : decode cX0_walkOver 14 = .ok (.iload_n 3, 1) := by decide +kernel
theorem dX0_walkOver_15 : decode cX0_walkOver 15 = .ok (.invokevirtual 138, 3) := by decide +kernel
theorem dX0_walkOver_18 : decode cX0_walkOver 18 = .ok (.istore 4, 2) := by decide +kernel
theorem dX0_walkOver_20 : decode cX0_walkOver 20 = .ok (.iload 4, 2) := by decide +kernel
theorem dX0_walkOver_22 : decode cX0_walkOver 22 = .ok (.ifCond .eq 16, 3) := by decide +kernel
theorem dX0_walkOver_25 : decode cX0_walkOver 25 = .ok (.aload_n 0, 1) := by decide +kernel
theorem dX0_walkOver_26 : decode cX0_walkOver 26 = .ok (.dup, 1) := by decide +kernel
theorem dX0_walkOver_27 : decode cX0_walkOver 27 = .ok (.getfield 86, 3) := by decide +kernel
theorem dX0_walkOver_30 : decode cX0_walkOver 30 = .ok (.iconst 1, 1) := by decide +kernel
theorem dX0_walkOver_31 : decode cX0_walkOver 31 = .ok (.iadd, 1) := by decide +kernel
theorem dX0_walkOver_32 : decode cX0_walkOver 32 = .ok (.putfield 86, 3) := by decide +kernel
theorem dX0_walkOver_35 : decode cX0_walkOver 35 = .ok (.iload 4, 2) := by decide +kernel
theorem dX0_walkOver_37 : decode cX0_walkOver 37 = .ok (.ireturn, 1) := by decide +kernel
theorem dX0_walkOver_38 : decode cX0_walkOver 38 = .ok (.aload_n 0, 1) := by decide +kernel
theorem dX0_walkOver_39 : decode cX0_walkOver 39 = .ok (.getfield 30, 3) := by decide +kernel
theorem dX0_walkOver_42 : decode cX0_walkOver 42 = .ok (.iload_n 1, 1) := by decide +kernel
theorem dX0_walkOver_43 : decode cX0_walkOver 43 = .ok (.iload_n 3, 1) := by decide +kernel
theorem dX0_walkOver_44 : decode cX0_walkOver 44 = .ok (.iastore, 1) := by decide +kernel
theorem dX0_walkOver_45 : decode cX0_walkOver 45 = .ok (.aload_n 0, 1) := by decide +kernel
theorem dX0_walkOver_46 : decode cX0_walkOver 46 = .ok (.getfield 33, 3) := by decide +kernel
theorem dX0_walkOver_49 : decode cX0_walkOver 49 = .ok (.iload_n 1, 1) := by decide +kernel
theorem dX0_walkOver_50 : decode cX0_walkOver 50 = .ok (.dup2, 1) := by decide +kernel
theorem dX0_walkOver_51 : decode cX0_walkOver 51 = .ok (.iaload, 1) := by decide +kernel
theorem dX0_walkOver_52 : decode cX0_walkOver 52 = .ok (.iconst 1, 1) := by decide +kernel
theorem dX0_walkOver_53 : decode cX0_walkOver 53 = .ok (.iadd, 1) := by decide +kernel
theorem dX0_walkOver_54 : decode cX0_walkOver 54 = .ok (.iastore, 1) := by decide +kernel
theorem dX0_walkOver_55 : decode cX0_walkOver 55 = .ok (.bipush 10, 2) := by decide +kernel
theorem dX0_walkOver_57 : decode cX0_walkOver 57 = .ok (.iload_n 3, 1) := by decide +kernel
theorem dX0_walkOver_58 : decode cX0_walkOver 58 = .ok (.iadd, 1) := by decide +kernel
theorem dX0_walkOver_59 : decode cX0_walkOver 59 = .ok (.ireturn, 1) := by decide +kernel
theorem dX0_passDay_0 : decode cX0_passDay 0 = .ok (.aload_n 0, 1) := by decide +kernel
theorem dX0_passDay_1 : decode cX0_passDay 1 = .ok (.dup, 1) := by decide +kernel
theorem dX0_passDay_2 : decode cX0_passDay 2 = .ok (.getfield 74, 3) := by decide +kernel
theorem dX0_passDay_5 : decode cX0_passDay 5 = .ok (.iconst 1, 1) := by decide +kernel
theorem dX0_passDay_6 : decode cX0_passDay 6 = .ok (.iadd, 1) := by decide +kernel
theorem dX0_passDay_7 : decode cX0_passDay 7 = .ok (.putfield 74, 3) := by decide +kernel
theorem dX0_passDay_10 : decode cX0_passDay 10 = .ok (.aload_n 0, 1) := by decide +kernel
theorem dX0_passDay_11 : decode cX0_passDay 11 = .ok (.aload_n 0, 1) := by decide +kernel
theorem dX0_passDay_12 : decode cX0_passDay 12 = .ok (.getfield 36, 3) := by decide +kernel
theorem dX0_passDay_15 : decode cX0_passDay 15 = .ok (.invokevirtual 100, 3) := by decide +kernel
theorem dX0_passDay_18 : decode cX0_passDay 18 = .ok (.istore_n 1, 1) := by decide +kernel
theorem dX0_passDay_19 : decode cX0_passDay 19 = .ok (.iconst 0, 1) := by decide +kernel
theorem dX0_passDay_20 : decode cX0_passDay 20 = .ok (.istore_n 2, 1) := by decide +kernel
theorem dX0_passDay_21 : decode cX0_passDay 21 = .ok (.iload_n 2, 1) := by decide +kernel
theorem dX0_passDay_22 : decode cX0_passDay 22 = .ok (.bipush 28, 2) := by decide +kernel
theorem dX0_passDay_24 : decode cX0_passDay 24 = .ok (.if_icmp .ge 23, 3) := by decide +kernel
theorem dX0_passDay_27 : decode cX0_passDay 27 = .ok (.aload_n 0, 1) := by decide +kernel
theorem dX0_passDay_28 : decode cX0_passDay 28 = .ok (.iload_n 2, 1) := by decide +kernel
theorem dX0_passDay_29 : decode cX0_passDay 29 = .ok (.invokevirtual 89, 3) := by decide +kernel
theorem dX0_passDay_32 : decode cX0_passDay 32 = .ok (.ifCond .eq 9, 3) := by decide +kernel
theorem dX0_passDay_35 : decode cX0_passDay 35 = .ok (.aload_n 0, 1) := by decide +kernel
theorem dX0_passDay_36 : decode cX0_passDay 36 = .ok (.iload_n 2, 1) := by decide +kernel
theorem dX0_passDay_37 : decode cX0_passDay 37 = .ok (.iload_n 1, 1) := by decide +kernel
theorem dX0_passDay_38 : decode cX0_passDay 38 = .ok (.invokevirtual 141, 3) := by decide +kernel
theorem dX0_passDay_41 : decode cX0_passDay 41 = .ok (.iinc 2 1, 3) := by decide +kernel
theorem dX0_passDay_44 : decode cX0_passDay 44 = .ok (.goto (-23), 3) := by decide +kernel
theorem dX0_passDay_47 : decode cX0_passDay 47 = .ok (.aload_n 0, 1) := by decide +kernel
theorem dX0_passDay_48 : decode cX0_passDay 48 = .ok (.sipush 421, 3) := by decide +kernel
theorem dX0_passDay_51 : decode cX0_passDay 51 = .ok (.aload_n 0, 1) := by decide +kernel
theorem dX0_passDay_52 : decode cX0_passDay 52 = .ok (.getfield 43, 3) := by decide +kernel
theorem dX0_passDay_55 : decode cX0_passDay 55 = .ok (.imul, 1) := by decide +kernel
theorem dX0_passDay_56 : decode cX0_passDay 56 = .ok (.sipush 1663, 3) := by decide +kernel
theorem dX0_passDay_59 : decode cX0_passDay 59 = .ok (.iadd, 1) := by decide +kernel
theorem dX0_passDay_60 : decode cX0_passDay 60 = .ok (.sipush 10000, 3) := by decide +kernel
theorem dX0_passDay_63 : decode cX0_passDay 63 = .ok (.irem, 1) := by decide +kernel
theorem dX0_passDay_64 : decode cX0_passDay 64 = .ok (.putfield 43, 3) := by decide +kernel
theorem dX0_passDay_67 : decode cX0_passDay 67 = .ok (.aload_n 0, 1) := by decide +kernel
theorem dX0_passDay_68 : decode cX0_passDay 68 = .ok (.getfield 43, 3) := by decide +kernel
theorem dX0_passDay_71 : decode cX0_passDay 71 = .ok (.iconst 4, 1) := by decide +kernel
theorem dX0_passDay_72 : decode cX0_passDay 72 = .ok (.irem, 1) := by decide +kernel
theorem dX0_passDay_73 : decode cX0_passDay 73 = .ok (.ifCond .ne 15, 3) := by decide +kernel
theorem dX0_passDay_76 : decode cX0_passDay 76 = .ok (.aload_n 0, 1) := by decide +kernel
theorem dX0_passDay_77 : decode cX0_passDay 77 = .ok (.aload_n 0, 1) := by decide +kernel
theorem dX0_passDay_78 : decode cX0_passDay 78 = .ok (.getfield 36, 3) := by decide +kernel
theorem dX0_passDay_81 : decode cX0_passDay 81 = .ok (.iconst 1, 1) := by decide +kernel
theorem dX0_passDay_82 : decode cX0_passDay 82 = .ok (.iadd, 1) := by decide +kernel
theorem dX0_passDay_83 : decode cX0_passDay 83 = .ok (.iconst 4, 1) := by decide +kernel
theorem dX0_passDay_84 : decode cX0_passDay 84 = .ok (.irem, 1) := by decide +kernel
theorem dX0_passDay_85 : decode cX0_passDay 85 = .ok (.putfield 36, 3) := by decide +kernel
theorem dX0_passDay_88 : decode cX0_passDay 88 = .ok (.return_, 1) := by decide +kernel
theorem dX0_soilLine_0 : decode cX0_soilLine 0 = .ok (.iload_n 1, 1) := by decide +kernel
theorem dX0_soilLine_1 : decode cX0_soilLine 1 = .ok (.invokestatic 104, 3) := by decide +kernel
theorem dX0_soilLine_4 : decode cX0_soilLine 4 = .ok (.istore_n 3, 1) := by decide +kernel
theorem dX0_soilLine_5 : decode cX0_soilLine 5 = .ok (.aload_n 0, 1) := by decide +kernel
theorem dX0_soilLine_6 : decode cX0_soilLine 6 = .ok (.getfield 18, 3) := by decide +kernel
theorem dX0_soilLine_9 : decode cX0_soilLine 9 = .ok (.iload_n 1, 1) := by decide +kernel
theorem dX0_soilLine_10 : decode cX0_soilLine 10 = .ok (.dup2, 1) := by decide +kernel
theorem dX0_soilLine_11 : decode cX0_soilLine 11 = .ok (.iaload, 1) := by decide +kernel
theorem dX0_soilLine_12 : decode cX0_soilLine 12 = .ok (.iload_n 2, 1) := by decide +kernel
theorem dX0_soilLine_13 : decode cX0_soilLine 13 = .ok (.iload_n 3, 1) := by decide +kernel
theorem dX0_soilLine_14 : decode cX0_soilLine 14 = .ok (.iand, 1) := by decide +kernel
theorem dX0_soilLine_15 : decode cX0_soilLine 15 = .ok (.invokestatic 130, 3) := by decide +kernel
theorem dX0_soilLine_18 : decode cX0_soilLine 18 = .ok (.iadd, 1) := by decide +kernel
theorem dX0_soilLine_19 : decode cX0_soilLine 19 = .ok (.iastore, 1) := by decide +kernel
theorem dX0_soilLine_20 : decode cX0_soilLine 20 = .ok (.aload_n 0, 1) := by decide +kernel
theorem dX0_soilLine_21 : decode cX0_soilLine 21 = .ok (.getfield 65, 3) := by decide +kernel
theorem dX0_soilLine_24 : decode cX0_soilLine 24 = .ok (.aload_n 0, 1) := by decide +kernel
theorem dX0_soilLine_25 : decode cX0_soilLine 25 = .ok (.getfield 15, 3) := by decide +kernel
theorem dX0_soilLine_28 : decode cX0_soilLine 28 = .ok (.iload_n 1, 1) := by decide +kernel
theorem dX0_soilLine_29 : decode cX0_soilLine 29 = .ok (.iaload, 1) := by decide +kernel
theorem dX0_soilLine_30 : decode cX0_soilLine 30 = .ok (.invokestatic 92, 3) := by decide +kernel
theorem dX0_soilLine_33 : decode cX0_soilLine 33 = .ok (.ifCond .ne 21, 3) := by decide +kernel
theorem dX0_soilLine_36 : decode cX0_soilLine 36 = .ok (.aload_n 0, 1) := by decide +kernel
theorem dX0_soilLine_37 : decode cX0_soilLine 37 = .ok (.getfield 21, 3) := by decide +kernel
theorem dX0_soilLine_40 : decode cX0_soilLine 40 = .ok (.iload_n 1, 1) := by decide +kernel
theorem dX0_soilLine_41 : decode cX0_soilLine 41 = .ok (.dup2, 1) := by decide +kernel
theorem dX0_soilLine_42 : decode cX0_soilLine 42 = .ok (.iaload, 1) := by decide +kernel
theorem dX0_soilLine_43 : decode cX0_soilLine 43 = .ok (.aload_n 0, 1) := by decide +kernel
theorem dX0_soilLine_44 : decode cX0_soilLine 44 = .ok (.getfield 71, 3) := by decide +kernel
theorem dX0_soilLine_47 : decode cX0_soilLine 47 = .ok (.iload_n 3, 1) := by decide +kernel
theorem dX0_soilLine_48 : decode cX0_soilLine 48 = .ok (.iand, 1) := by decide +kernel
theorem dX0_soilLine_49 : decode cX0_soilLine 49 = .ok (.invokestatic 130, 3) := by decide +kernel
theorem dX0_soilLine_52 : decode cX0_soilLine 52 = .ok (.iadd, 1) := by decide +kernel
theorem dX0_soilLine_53 : decode cX0_soilLine 53 = .ok (.iastore, 1) := by decide +kernel
theorem dX0_soilLine_54 : decode cX0_soilLine 54 = .ok (.return_, 1) := by decide +kernel
theorem dX0_allLines_0 : decode cX0_allLines 0 = .ok (.iconst 0, 1) := by decide +kernel
theorem dX0_allLines_1 : decode cX0_allLines 1 = .ok (.istore_n 1, 1) := by decide +kernel
theorem dX0_allLines_2 : decode cX0_allLines 2 = .ok (.iconst 0, 1) := by decide +kernel
theorem dX0_allLines_3 : decode cX0_allLines 3 = .ok (.istore_n 2, 1) := by decide +kernel
theorem dX0_allLines_4 : decode cX0_allLines 4 = .ok (.iload_n 2, 1) := by decide +kernel
theorem dX0_allLines_5 : decode cX0_allLines 5 = .ok (.bipush 28, 2) := by decide +kernel
theorem dX0_allLines_7 : decode cX0_allLines 7 = .ok (.if_icmp .ge 23, 3) := by decide +kernel
theorem dX0_allLines_10 : decode cX0_allLines 10 = .ok (.aload_n 0, 1) := by decide +kernel
theorem dX0_allLines_11 : decode cX0_allLines 11 = .ok (.iload_n 2, 1) := by decide +kernel
theorem dX0_allLines_12 : decode cX0_allLines 12 = .ok (.invokevirtual 89, 3) := by decide +kernel
theorem dX0_allLines_15 : decode cX0_allLines 15 = .ok (.ifCond .eq 9, 3) := by decide +kernel
theorem dX0_allLines_18 : decode cX0_allLines 18 = .ok (.iload_n 1, 1) := by decide +kernel
theorem dX0_allLines_19 : decode cX0_allLines 19 = .ok (.iconst 1, 1) := by decide +kernel
theorem dX0_allLines_20 : decode cX0_allLines 20 = .ok (.iload_n 2, 1) := by decide +kernel
theorem dX0_allLines_21 : decode cX0_allLines 21 = .ok (.ishl, 1) := by decide +kernel
theorem dX0_allLines_22 : decode cX0_allLines 22 = .ok (.ior, 1) := by decide +kernel
theorem dX0_allLines_23 : decode cX0_allLines 23 = .ok (.istore_n 1, 1) := by decide +kernel
theorem dX0_allLines_24 : decode cX0_allLines 24 = .ok (.iinc 2 1, 3) := by decide +kernel
theorem dX0_allLines_27 : decode cX0_allLines 27 = .ok (.goto (-23), 3) := by decide +kernel
theorem dX0_allLines_30 : decode cX0_allLines 30 = .ok (.iload_n 1, 1) := by decide +kernel
theorem dX0_allLines_31 : decode cX0_allLines 31 = .ok (.ireturn, 1) := by decide +kernel
theorem dX0_cleanLines_0 : decode cX0_cleanLines 0 = .ok (.iconst 0, 1) := by decide +kernel
theorem dX0_cleanLines_1 : decode cX0_cleanLines 1 = .ok (.istore_n 1, 1) := by decide +kernel
theorem dX0_cleanLines_2 : decode cX0_cleanLines 2 = .ok (.iconst 0, 1) := by decide +kernel
theorem dX0_cleanLines_3 : decode cX0_cleanLines 3 = .ok (.istore_n 2, 1) := by decide +kernel
theorem dX0_cleanLines_4 : decode cX0_cleanLines 4 = .ok (.iload_n 2, 1) := by decide +kernel
theorem dX0_cleanLines_5 : decode cX0_cleanLines 5 = .ok (.bipush 28, 2) := by decide +kernel
theorem dX0_cleanLines_7 : decode cX0_cleanLines 7 = .ok (.if_icmp .ge 41, 3) := by decide +kernel
theorem dX0_cleanLines_10 : decode cX0_cleanLines 10 = .ok (.aload_n 0, 1) := by decide +kernel
theorem dX0_cleanLines_11 : decode cX0_cleanLines 11 = .ok (.iload_n 2, 1) := by decide +kernel
theorem dX0_cleanLines_12 : decode cX0_cleanLines 12 = .ok (.invokevirtual 89, 3) := by decide +kernel
theorem dX0_cleanLines_15 : decode cX0_cleanLines 15 = .ok (.ifCond .eq 27, 3) := by decide +kernel
theorem dX0_cleanLines_18 : decode cX0_cleanLines 18 = .ok (.aload_n 0, 1) := by decide +kernel
theorem dX0_cleanLines_19 : decode cX0_cleanLines 19 = .ok (.getfield 18, 3) := by decide +kernel
theorem dX0_cleanLines_22 : decode cX0_cleanLines 22 = .ok (.iload_n 2, 1) := by decide +kernel
theorem dX0_cleanLines_23 : decode cX0_cleanLines 23 = .ok (.iaload, 1) := by decide +kernel
theorem dX0_cleanLines_24 : decode cX0_cleanLines 24 = .ok (.ifCond .ne 18, 3) := by decide +kernel
theorem dX0_cleanLines_27 : decode cX0_cleanLines 27 = .ok (.aload_n 0, 1) := by decide +kernel
theorem dX0_cleanLines_28 : decode cX0_cleanLines 28 = .ok (.getfield 21, 3) := by decide +kernel
theorem dX0_cleanLines_31 : decode cX0_cleanLines 31 = .ok (.iload_n 2, 1) := by decide +kernel
theorem dX0_cleanLines_32 : decode cX0_cleanLines 32 = .ok (.iaload, 1) := by decide +kernel
theorem dX0_cleanLines_33 : decode cX0_cleanLines 33 = .ok (.ifCond .ne 9, 3) := by decide +kernel
theorem dX0_cleanLines_36 : decode cX0_cleanLines 36 = .ok (.iload_n 1, 1) := by decide +kernel
theorem dX0_cleanLines_37 : decode cX0_cleanLines 37 = .ok (.iconst 1, 1) := by decide +kernel
theorem dX0_cleanLines_38 : decode cX0_cleanLines 38 = .ok (.iload_n 2, 1) := by decide +kernel
theorem dX0_cleanLines_39 : decode cX0_cleanLines 39 = .ok (.ishl, 1) := by decide +kernel
theorem dX0_cleanLines_40 : decode cX0_cleanLines 40 = .ok (.ior, 1) := by decide +kernel
theorem dX0_cleanLines_41 : decode cX0_cleanLines 41 = .ok (.istore_n 1, 1) := by decide +kernel
theorem dX0_cleanLines_42 : decode cX0_cleanLines 42 = .ok (.iinc 2 1, 3) := by decide +kernel
theorem dX0_cleanLines_45 : decode cX0_cleanLines 45 = .ok (.goto (-41), 3) := by decide +kernel
theorem dX0_cleanLines_48 : decode cX0_cleanLines 48 = .ok (.iload_n 1, 1) := by decide +kernel
theorem dX0_cleanLines_49 : decode cX0_cleanLines 49 = .ok (.ireturn, 1) := by decide +kernel
theorem dX0_linesOf_0 : decode cX0_linesOf 0 = .ok (.iconst 0, 1) := by decide +kernel
theorem dX0_linesOf_1 : decode cX0_linesOf 1 = .ok (.istore_n 2, 1) := by decide +kernel
theorem dX0_linesOf_2 : decode cX0_linesOf 2 = .ok (.iconst 0, 1) := by decide +kernel
theorem dX0_linesOf_3 : decode cX0_linesOf 3 = .ok (.istore_n 3, 1) := by decide +kernel
theorem dX0_linesOf_4 : decode cX0_linesOf 4 = .ok (.iload_n 3, 1) := by decide +kernel
theorem dX0_linesOf_5 : decode cX0_linesOf 5 = .ok (.bipush 28, 2) := by decide +kernel
theorem dX0_linesOf_7 : decode cX0_linesOf 7 = .ok (.if_icmp .ge 25, 3) := by decide +kernel
theorem dX0_linesOf_10 : decode cX0_linesOf 10 = .ok (.aload_n 0, 1) := by decide +kernel
theorem dX0_linesOf_11 : decode cX0_linesOf 11 = .ok (.getfield 15, 3) := by decide +kernel
theorem dX0_linesOf_14 : decode cX0_linesOf 14 = .ok (.iload_n 3, 1) := by decide +kernel
theorem dX0_linesOf_15 : decode cX0_linesOf 15 = .ok (.iaload, 1) := by decide +kernel
theorem dX0_linesOf_16 : decode cX0_linesOf 16 = .ok (.iload_n 1, 1) := by decide +kernel
theorem dX0_linesOf_17 : decode cX0_linesOf 17 = .ok (.if_icmp .ne 9, 3) := by decide +kernel
theorem dX0_linesOf_20 : decode cX0_linesOf 20 = .ok (.iload_n 2, 1) := by decide +kernel
theorem dX0_linesOf_21 : decode cX0_linesOf 21 = .ok (.iconst 1, 1) := by decide +kernel
theorem dX0_linesOf_22 : decode cX0_linesOf 22 = .ok (.iload_n 3, 1) := by decide +kernel
theorem dX0_linesOf_23 : decode cX0_linesOf 23 = .ok (.ishl, 1) := by decide +kernel
theorem dX0_linesOf_24 : decode cX0_linesOf 24 = .ok (.ior, 1) := by decide +kernel
theorem dX0_linesOf_25 : decode cX0_linesOf 25 = .ok (.istore_n 2, 1) := by decide +kernel
theorem dX0_linesOf_26 : decode cX0_linesOf 26 = .ok (.iinc 3 1, 3) := by decide +kernel
theorem dX0_linesOf_29 : decode cX0_linesOf 29 = .ok (.goto (-25), 3) := by decide +kernel
theorem dX0_linesOf_32 : decode cX0_linesOf 32 = .ok (.iload_n 2, 1) := by decide +kernel
theorem dX0_linesOf_33 : decode cX0_linesOf 33 = .ok (.ireturn, 1) := by decide +kernel
theorem dX0_linesSmokedBy_0 : decode cX0_linesSmokedBy 0 = .ok (.aload_n 0, 1) := by decide +kernel
theorem dX0_linesSmokedBy_1 : decode cX0_linesSmokedBy 1 = .ok (.iload_n 1, 1) := by decide +kernel
theorem dX0_linesSmokedBy_2 : decode cX0_linesSmokedBy 2 = .ok (.invokevirtual 100, 3) := by decide +kernel
theorem dX0_linesSmokedBy_5 : decode cX0_linesSmokedBy 5 = .ok (.istore_n 2, 1) := by decide +kernel
theorem dX0_linesSmokedBy_6 : decode cX0_linesSmokedBy 6 = .ok (.iconst 0, 1) := by decide +kernel
theorem dX0_linesSmokedBy_7 : decode cX0_linesSmokedBy 7 = .ok (.istore_n 3, 1) := by decide +kernel
theorem dX0_linesSmokedBy_8 : decode cX0_linesSmokedBy 8 = .ok (.iconst 0, 1) := by decide +kernel
theorem dX0_linesSmokedBy_9 : decode cX0_linesSmokedBy 9 = .ok (.istore 4, 2) := by decide +kernel
theorem dX0_linesSmokedBy_11 : decode cX0_linesSmokedBy 11 = .ok (.iload 4, 2) := by decide +kernel
theorem dX0_linesSmokedBy_13 : decode cX0_linesSmokedBy 13 = .ok (.bipush 28, 2) := by decide +kernel
theorem dX0_linesSmokedBy_15 : decode cX0_linesSmokedBy 15 = .ok (.if_icmp .ge 31, 3) := by decide +kernel
theorem dX0_linesSmokedBy_18 : decode cX0_linesSmokedBy 18 = .ok (.aload_n 0, 1) := by decide +kernel
theorem dX0_linesSmokedBy_19 : decode cX0_linesSmokedBy 19 = .ok (.iload 4, 2) := by decide +kernel
theorem dX0_linesSmokedBy_21 : decode cX0_linesSmokedBy 21 = .ok (.invokevirtual 89, 3) := by decide +kernel
theorem dX0_linesSmokedBy_24 : decode cX0_linesSmokedBy 24 = .ok (.ifCond .eq 16, 3) := by decide +kernel
theorem dX0_linesSmokedBy_27 : decode cX0_linesSmokedBy 27 = .ok (.iload_n 2, 1) := by decide +kernel
theorem dX0_linesSmokedBy_28 : decode cX0_linesSmokedBy 28 = .ok (.iload 4, 2) := by decide +kernel
theorem dX0_linesSmokedBy_30 : decode cX0_linesSmokedBy 30 = .ok (.invokestatic 104, 3) := by decide +kernel
theorem dX0_linesSmokedBy_33 : decode cX0_linesSmokedBy 33 = .ok (.iand, 1) := by decide +kernel
theorem dX0_linesSmokedBy_34 : decode cX0_linesSmokedBy 34 = .ok (.ifCond .eq 6, 3) := by decide +kernel
theorem dX0_linesSmokedBy_37 : decode cX0_linesSmokedBy 37 = .ok (.iinc 3 1, 3) := by decide +kernel
theorem dX0_linesSmokedBy_40 : decode cX0_linesSmokedBy 40 = .ok (.iinc 4 1, 3) := by decide +kernel
theorem dX0_linesSmokedBy_43 : decode cX0_linesSmokedBy 43 = .ok (.goto (-32), 3) := by decide +kernel
theorem dX0_linesSmokedBy_46 : decode cX0_linesSmokedBy 46 = .ok (.iload_n 3, 1) := by decide +kernel
theorem dX0_linesSmokedBy_47 : decode cX0_linesSmokedBy 47 = .ok (.ireturn, 1) := by decide +kernel
theorem dX0_sumOverLines_0 : decode cX0_sumOverLines 0 = .ok (.iconst 0, 1) := by decide +kernel
theorem dX0_sumOverLines_1 : decode cX0_sumOverLines 1 = .ok (.istore_n 2, 1) := by decide +kernel
theorem dX0_sumOverLines_2 : decode cX0_sumOverLines 2 = .ok (.iconst 0, 1) := by decide +kernel
theorem dX0_sumOverLines_3 : decode cX0_sumOverLines 3 = .ok (.istore_n 3, 1) := by decide +kernel
theorem dX0_sumOverLines_4 : decode cX0_sumOverLines 4 = .ok (.iload_n 3, 1) := by decide +kernel
theorem dX0_sumOverLines_5 : decode cX0_sumOverLines 5 = .ok (.bipush 28, 2) := by decide +kernel
theorem dX0_sumOverLines_7 : decode cX0_sumOverLines 7 = .ok (.if_icmp .ge 29, 3) := by decide +kernel
theorem dX0_sumOverLines_10 : decode cX0_sumOverLines 10 = .ok (.iload_n 3, 1) := by decide +kernel
theorem dX0_sumOverLines_11 : decode cX0_sumOverLines 11 = .ok (.aload_n 1, 1) := by decide +kernel
theorem dX0_sumOverLines_12 : decode cX0_sumOverLines 12 = .ok (.arraylength, 1) := by decide +kernel
theorem dX0_sumOverLines_13 : decode cX0_sumOverLines 13 = .ok (.if_icmp .ge 23, 3) := by decide +kernel
theorem dX0_sumOverLines_16 : decode cX0_sumOverLines 16 = .ok (.aload_n 0, 1) := by decide +kernel
theorem dX0_sumOverLines_17 : decode cX0_sumOverLines 17 = .ok (.iload_n 3, 1) := by decide +kernel
theorem dX0_sumOverLines_18 : decode cX0_sumOverLines 18 = .ok (.invokevirtual 89, 3) := by decide +kernel
theorem dX0_sumOverLines_21 : decode cX0_sumOverLines 21 = .ok (.ifCond .eq 9, 3) := by decide +kernel
theorem dX0_sumOverLines_24 : decode cX0_sumOverLines 24 = .ok (.iload_n 2, 1) := by decide +kernel
theorem dX0_sumOverLines_25 : decode cX0_sumOverLines 25 = .ok (.aload_n 1, 1) := by decide +kernel
theorem dX0_sumOverLines_26 : decode cX0_sumOverLines 26 = .ok (.iload_n 3, 1) := by decide +kernel
theorem dX0_sumOverLines_27 : decode cX0_sumOverLines 27 = .ok (.iaload, 1) := by decide +kernel
theorem dX0_sumOverLines_28 : decode cX0_sumOverLines 28 = .ok (.iadd, 1) := by decide +kernel
theorem dX0_sumOverLines_29 : decode cX0_sumOverLines 29 = .ok (.istore_n 2, 1) := by decide +kernel
theorem dX0_sumOverLines_30 : decode cX0_sumOverLines 30 = .ok (.iinc 3 1, 3) := by decide +kernel
theorem dX0_sumOverLines_33 : decode cX0_sumOverLines 33 = .ok (.goto (-29), 3) := by decide +kernel
theorem dX0_sumOverLines_36 : decode cX0_sumOverLines 36 = .ok (.iload_n 2, 1) := by decide +kernel
theorem dX0_sumOverLines_37 : decode cX0_sumOverLines 37 = .ok (.ireturn, 1) := by decide +kernel
theorem dX0_standingGangways_0 : decode cX0_standingGangways 0 = .ok (.iconst 0, 1) := by decide +kernel
theorem dX0_standingGangways_1 : decode cX0_standingGangways 1 = .ok (.istore_n 1, 1) := by decide +kernel
theorem dX0_standingGangways_2 : decode cX0_standingGangways 2 = .ok (.iconst 0, 1) := by decide +kernel
theorem dX0_standingGangways_3 : decode cX0_standingGangways 3 = .ok (.istore_n 2, 1) := by decide +kernel
theorem dX0_standingGangways_4 : decode cX0_standingGangways 4 = .ok (.iload_n 2, 1) := by decide +kernel
theorem dX0_standingGangways_5 : decode cX0_standingGangways 5 = .ok (.bipush 28, 2) := by decide +kernel
theorem dX0_standingGangways_7 : decode cX0_standingGangways 7 = .ok (.if_icmp .ge 23, 3) := by decide +kernel
theorem dX0_standingGangways_10 : decode cX0_standingGangways 10 = .ok (.aload_n 0, 1) := by decide +kernel
theorem dX0_standingGangways_11 : decode cX0_standingGangways 11 = .ok (.iload_n 2, 1) := by decide +kernel
theorem dX0_standingGangways_12 : decode cX0_standingGangways 12 = .ok (.invokevirtual 116, 3) := by decide +kernel
theorem dX0_standingGangways_15 : decode cX0_standingGangways 15 = .ok (.ifCond .eq 9, 3) := by decide +kernel
theorem dX0_standingGangways_18 : decode cX0_standingGangways 18 = .ok (.iload_n 1, 1) := by decide +kernel
theorem dX0_standingGangways_19 : decode cX0_standingGangways 19 = .ok (.iconst 1, 1) := by decide +kernel
theorem dX0_standingGangways_20 : decode cX0_standingGangways 20 = .ok (.iload_n 2, 1) := by decide +kernel
theorem dX0_standingGangways_21 : decode cX0_standingGangways 21 = .ok (.ishl, 1) := by decide +kernel
theorem dX0_standingGangways_22 : decode cX0_standingGangways 22 = .ok (.ior, 1) := by decide +kernel
theorem dX0_standingGangways_23 : decode cX0_standingGangways 23 = .ok (.istore_n 1, 1) := by decide +kernel
theorem dX0_standingGangways_24 : decode cX0_standingGangways 24 = .ok (.iinc 2 1, 3) := by decide +kernel
theorem dX0_standingGangways_27 : decode cX0_standingGangways 27 = .ok (.goto (-23), 3) := by decide +kernel
theorem dX0_standingGangways_30 : decode cX0_standingGangways 30 = .ok (.iload_n 1, 1) := by decide +kernel
theorem dX0_standingGangways_31 : decode cX0_standingGangways 31 = .ok (.ireturn, 1) := by decide +kernel
theorem dX0_ownersOn_0 : decode cX0_ownersOn 0 = .ok (.iconst 0, 1) := by decide +kernel
theorem dX0_ownersOn_1 : decode cX0_ownersOn 1 = .ok (.istore_n 2, 1) := by decide +kernel
theorem dX0_ownersOn_2 : decode cX0_ownersOn 2 = .ok (.iconst 0, 1) := by decide +kernel
theorem dX0_ownersOn_3 : decode cX0_ownersOn 3 = .ok (.istore_n 3, 1) := by decide +kernel
theorem dX0_ownersOn_4 : decode cX0_ownersOn 4 = .ok (.iload_n 3, 1) := by decide +kernel
theorem dX0_ownersOn_5 : decode cX0_ownersOn 5 = .ok (.iconst 4, 1) := by decide +kernel
theorem dX0_ownersOn_6 : decode cX0_ownersOn 6 = .ok (.if_icmp .ge 25, 3) := by decide +kernel
theorem dX0_ownersOn_9 : decode cX0_ownersOn 9 = .ok (.aload_n 0, 1) := by decide +kernel
theorem dX0_ownersOn_10 : decode cX0_ownersOn 10 = .ok (.getfield 30, 3) := by decide +kernel
theorem dX0_ownersOn_13 : decode cX0_ownersOn 13 = .ok (.iload_n 3, 1) := by decide +kernel
theorem dX0_ownersOn_14 : decode cX0_ownersOn 14 = .ok (.iaload, 1) := by decide +kernel
theorem dX0_ownersOn_15 : decode cX0_ownersOn 15 = .ok (.iload_n 1, 1) := by decide +kernel
theorem dX0_ownersOn_16 : decode cX0_ownersOn 16 = .ok (.if_icmp .ne 9, 3) := by decide +kernel
theorem dX0_ownersOn_19 : decode cX0_ownersOn 19 = .ok (.iload_n 2, 1) := by decide +kernel
theorem dX0_ownersOn_20 : decode cX0_ownersOn 20 = .ok (.iconst 1, 1) := by decide +kernel
theorem dX0_ownersOn_21 : decode cX0_ownersOn 21 = .ok (.iload_n 3, 1) := by decide +kernel
theorem dX0_ownersOn_22 : decode cX0_ownersOn 22 = .ok (.ishl, 1) := by decide +kernel
theorem dX0_ownersOn_23 : decode cX0_ownersOn 23 = .ok (.ior, 1) := by decide +kernel
theorem dX0_ownersOn_24 : decode cX0_ownersOn 24 = .ok (.istore_n 2, 1) := by decide +kernel
theorem dX0_ownersOn_25 : decode cX0_ownersOn 25 = .ok (.iinc 3 1, 3) := by decide +kernel
theorem dX0_ownersOn_28 : decode cX0_ownersOn 28 = .ok (.goto (-24), 3) := by decide +kernel
theorem dX0_ownersOn_31 : decode cX0_ownersOn 31 = .ok (.iload_n 2, 1) := by decide +kernel
theorem dX0_ownersOn_32 : decode cX0_ownersOn 32 = .ok (.ireturn, 1) := by decide +kernel
theorem dX0_walksOpenTo_0 : decode cX0_walksOpenTo 0 = .ok (.iconst 0, 1) := by decide +kernel
theorem dX0_walksOpenTo_1 : decode cX0_walksOpenTo 1 = .ok (.istore_n 2, 1) := by decide +kernel
theorem dX0_walksOpenTo_2 : decode cX0_walksOpenTo 2 = .ok (.iconst 0, 1) := by decide +kernel
theorem dX0_walksOpenTo_3 : decode cX0_walksOpenTo 3 = .ok (.istore_n 3, 1) := by decide +kernel
theorem dX0_walksOpenTo_4 : decode cX0_walksOpenTo 4 = .ok (.iload_n 3, 1) := by decide +kernel
theorem dX0_walksOpenTo_5 : decode cX0_walksOpenTo 5 = .ok (.bipush 28, 2) := by decide +kernel
theorem dX0_walksOpenTo_7 : decode cX0_walksOpenTo 7 = .ok (.if_icmp .ge 44, 3) := by decide +kernel
theorem dX0_walksOpenTo_10 : decode cX0_walksOpenTo 10 = .ok (.iload_n 3, 1) := by decide +kernel
theorem dX0_walksOpenTo_11 : decode cX0_walksOpenTo 11 = .ok (.aload_n 0, 1) := by decide +kernel
theorem dX0_walksOpenTo_12 : decode cX0_walksOpenTo 12 = .ok (.getfield 30, 3) := by decide +kernel
theorem dX0_walksOpenTo_15 : decode cX0_walksOpenTo 15 = .ok (.iload_n 1, 1) := by decide +kernel
theorem dX0_walksOpenTo_16 : decode cX0_walksOpenTo 16 = .ok (.iaload, 1) := by decide +kernel
theorem dX0_walksOpenTo_17 : decode cX0_walksOpenTo 17 = .ok (.invokestatic 135, 3) := by decide +kernel
theorem dX0_walksOpenTo_20 : decode cX0_walksOpenTo 20 = .ok (.istore 4, 2) := by decide +kernel
theorem dX0_walksOpenTo_22 : decode cX0_walksOpenTo 22 = .ok (.aload_n 0, 1) := by decide +kernel
theorem dX0_walksOpenTo_23 : decode cX0_walksOpenTo 23 = .ok (.iload_n 1, 1) := by decide +kernel
theorem dX0_walksOpenTo_24 : decode cX0_walksOpenTo 24 = .ok (.iload_n 3, 1) := by decide +kernel
theorem dX0_walksOpenTo_25 : decode cX0_walksOpenTo 25 = .ok (.invokevirtual 145, 3) := by decide +kernel
theorem dX0_walksOpenTo_28 : decode cX0_walksOpenTo 28 = .ok (.ifCond .eq 17, 3) := by decide +kernel
theorem dX0_walksOpenTo_31 : decode cX0_walksOpenTo 31 = .ok (.aload_n 0, 1) := by decide +kernel
theorem dX0_walksOpenTo_32 : decode cX0_walksOpenTo 32 = .ok (.iload_n 1, 1) := by decide +kernel
theorem dX0_walksOpenTo_33 : decode cX0_walksOpenTo 33 = .ok (.iload_n 3, 1) := by decide +kernel
theorem dX0_walksOpenTo_34 : decode cX0_walksOpenTo 34 = .ok (.iload 4, 2) := by decide +kernel
theorem dX0_walksOpenTo_36 : decode cX0_walksOpenTo 36 = .ok (.invokevirtual 138, 3) := by decide +kernel
theorem dX0_walksOpenTo_39 : decode cX0_walksOpenTo 39 = .ok (.ifCond .ne 6, 3) := by decide +kernel
theorem dX0_walksOpenTo_42 : decode cX0_walksOpenTo 42 = .ok (.iinc 2 1, 3) := by decide +kernel
theorem dX0_walksOpenTo_45 : decode cX0_walksOpenTo 45 = .ok (.iinc 3 1, 3) := by decide +kernel
theorem dX0_walksOpenTo_48 : decode cX0_walksOpenTo 48 = .ok (.goto (-44), 3) := by decide +kernel
theorem dX0_walksOpenTo_51 : decode cX0_walksOpenTo 51 = .ok (.iload_n 2, 1) := by decide +kernel
theorem dX0_walksOpenTo_52 : decode cX0_walksOpenTo 52 = .ok (.ireturn, 1) := by decide +kernel
theorem dX0_hangingsOpenTo_0 : decode cX0_hangingsOpenTo 0 = .ok (.iconst 0, 1) := by decide +kernel
theorem dX0_hangingsOpenTo_1 : decode cX0_hangingsOpenTo 1 = .ok (.istore_n 2, 1) := by decide +kernel
theorem dX0_hangingsOpenTo_2 : decode cX0_hangingsOpenTo 2 = .ok (.iconst 0, 1) := by decide +kernel
theorem dX0_hangingsOpenTo_3 : decode cX0_hangingsOpenTo 3 = .ok (.istore_n 3, 1) := by decide +kernel
theorem dX0_hangingsOpenTo_4 : decode cX0_hangingsOpenTo 4 = .ok (.iload_n 3, 1) := by decide +kernel
theorem dX0_hangingsOpenTo_5 : decode cX0_hangingsOpenTo 5 = .ok (.bipush 28, 2) := by decide +kernel
theorem dX0_hangingsOpenTo_7 : decode cX0_hangingsOpenTo 7 = .ok (.if_icmp .ge 21, 3) := by decide +kernel
theorem dX0_hangingsOpenTo_10 : decode cX0_hangingsOpenTo 10 = .ok (.aload_n 0, 1) := by decide +kernel
theorem dX0_hangingsOpenTo_11 : decode cX0_hangingsOpenTo 11 = .ok (.iload_n 1, 1) := by decide +kernel
theorem dX0_hangingsOpenTo_12 : decode cX0_hangingsOpenTo 12 = .ok (.iload_n 3, 1) := by decide +kernel
theorem dX0_hangingsOpenTo_13 : decode cX0_hangingsOpenTo 13 = .ok (.invokevirtual 122, 3) := by decide +kernel
theorem dX0_hangingsOpenTo_16 : decode cX0_hangingsOpenTo 16 = .ok (.ifCond .ne 6, 3) := by decide +kernel
theorem dX0_hangingsOpenTo_19 : decode cX0_hangingsOpenTo 19 = .ok (.iinc 2 1, 3) := by decide +kernel
theorem dX0_hangingsOpenTo_22 : decode cX0_hangingsOpenTo 22 = .ok (.iinc 3 1, 3) := by decide +kernel
theorem dX0_hangingsOpenTo_25 : decode cX0_hangingsOpenTo 25 = .ok (.goto (-21), 3) := by decide +kernel
theorem dX0_hangingsOpenTo_28 : decode cX0_hangingsOpenTo 28 = .ok (.iload_n 2, 1) := by decide +kernel
theorem dX0_hangingsOpenTo_29 : decode cX0_hangingsOpenTo 29 = .ok (.ireturn, 1) := by decide +kernel
theorem dX0_numberOfNow_0 : decode cX0_numberOfNow 0 = .ok (.iload_n 1, 1) := by decide +kernel
theorem dX0_numberOfNow_1 : decode cX0_numberOfNow 1 = .ok (.tableswitch 123 0 8 #[51, 56, 61, 69, 81, 89, 97, 105, 114], 51) := by decide +kernel
theorem dX0_numberOfNow_52 : decode cX0_numberOfNow 52 = .ok (.aload_n 0, 1) := by decide +kernel
theorem dX0_numberOfNow_53 : decode cX0_numberOfNow 53 = .ok (.getfield 74, 3) := by decide +kernel
theorem dX0_numberOfNow_56 : decode cX0_numberOfNow 56 = .ok (.ireturn, 1) := by decide +kernel
theorem dX0_numberOfNow_57 : decode cX0_numberOfNow 57 = .ok (.aload_n 0, 1) := by decide +kernel
theorem dX0_numberOfNow_58 : decode cX0_numberOfNow 58 = .ok (.getfield 36, 3) := by decide +kernel
theorem dX0_numberOfNow_61 : decode cX0_numberOfNow 61 = .ok (.ireturn, 1) := by decide +kernel
theorem dX0_numberOfNow_62 : decode cX0_numberOfNow 62 = .ok (.aload_n 0, 1) := by decide +kernel
theorem dX0_numberOfNow_63 : decode cX0_numberOfNow 63 = .ok (.getfield 68, 3) := by decide +kernel
theorem dX0_numberOfNow_66 : decode cX0_numberOfNow 66 = .ok (.invokestatic 130, 3) := by decide +kernel
theorem dX0_numberOfNow_69 : decode cX0_numberOfNow 69 = .ok (.ireturn, 1) := by decide +kernel
theorem dX0_numberOfNow_70 : decode cX0_numberOfNow 70 = .ok (.aload_n 0, 1) := by decide +kernel
theorem dX0_numberOfNow_71 : decode cX0_numberOfNow 71 = .ok (.aload_n 0, 1) := by decide +kernel
theorem dX0_numberOfNow_72 : decode cX0_numberOfNow 72 = .ok (.getfield 36, 3) := by decide +kernel
theorem dX0_numberOfNow_75 : decode cX0_numberOfNow 75 = .ok (.invokevirtual 100, 3) := by decide +kernel
theorem dX0_numberOfNow_78 : decode cX0_numberOfNow 78 = .ok (.invokestatic 130, 3) := by decide +kernel
theorem dX0_numberOfNow_81 : decode cX0_numberOfNow 81 = .ok (.ireturn, 1) := by decide +kernel
theorem dX0_numberOfNow_82 : decode cX0_numberOfNow 82 = .ok (.aload_n 0, 1) := by decide +kernel
theorem dX0_numberOfNow_83 : decode cX0_numberOfNow 83 = .ok (.getfield 71, 3) := by decide +kernel
theorem dX0_numberOfNow_86 : decode cX0_numberOfNow 86 = .ok (.invokestatic 130, 3) := by decide +kernel
theorem dX0_numberOfNow_89 : decode cX0_numberOfNow 89 = .ok (.ireturn, 1) := by decide +kernel
theorem dX0_numberOfNow_90 : decode cX0_numberOfNow 90 = .ok (.aload_n 0, 1) := by decide +kernel
theorem dX0_numberOfNow_91 : decode cX0_numberOfNow 91 = .ok (.invokevirtual 126, 3) := by decide +kernel
theorem dX0_numberOfNow_94 : decode cX0_numberOfNow 94 = .ok (.invokestatic 130, 3) := by decide +kernel
theorem dX0_numberOfNow_97 : decode cX0_numberOfNow 97 = .ok (.ireturn, 1) := by decide +kernel
theorem dX0_numberOfNow_98 : decode cX0_numberOfNow 98 = .ok (.aload_n 0, 1) := by decide +kernel
theorem dX0_numberOfNow_99 : decode cX0_numberOfNow 99 = .ok (.invokevirtual 148, 3) := by decide +kernel
theorem dX0_numberOfNow_102 : decode cX0_numberOfNow 102 = .ok (.invokestatic 130, 3) := by decide +kernel
theorem dX0_numberOfNow_105 : decode cX0_numberOfNow 105 = .ok (.ireturn, 1) := by decide +kernel
theorem dX0_numberOfNow_106 : decode cX0_numberOfNow 106 = .ok (.aload_n 0, 1) := by decide +kernel
theorem dX0_numberOfNow_107 : decode cX0_numberOfNow 107 = .ok (.aload_n 0, 1) := by decide +kernel
theorem dX0_numberOfNow_108 : decode cX0_numberOfNow 108 = .ok (.getfield 18, 3) := by decide +kernel
theorem dX0_numberOfNow_111 : decode cX0_numberOfNow 111 = .ok (.invokevirtual 151, 3) := by decide +kernel
theorem dX0_numberOfNow_114 : decode cX0_numberOfNow 114 = .ok (.ireturn, 1) := by decide +kernel
theorem dX0_numberOfNow_115 : decode cX0_numberOfNow 115 = .ok (.aload_n 0, 1) := by decide +kernel
theorem dX0_numberOfNow_116 : decode cX0_numberOfNow 116 = .ok (.aload_n 0, 1) := by decide +kernel
theorem dX0_numberOfNow_117 : decode cX0_numberOfNow 117 = .ok (.getfield 21, 3) := by decide +kernel
theorem dX0_numberOfNow_120 : decode cX0_numberOfNow 120 = .ok (.invokevirtual 151, 3) := by decide +kernel
theorem dX0_numberOfNow_123 : decode cX0_numberOfNow 123 = .ok (.ireturn, 1) := by decide +kernel
theorem dX0_numberOfNow_124 : decode cX0_numberOfNow 124 = .ok (.aload_n 0, 1) := by decide +kernel
theorem dX0_numberOfNow_125 : decode cX0_numberOfNow 125 = .ok (.aload_n 0, 1) := by decide +kernel
theorem dX0_numberOfNow_126 : decode cX0_numberOfNow 126 = .ok (.getfield 36, 3) := by decide +kernel
theorem dX0_numberOfNow_129 : decode cX0_numberOfNow 129 = .ok (.invokevirtual 155, 3) := by decide +kernel
theorem dX0_numberOfNow_132 : decode cX0_numberOfNow 132 = .ok (.ireturn, 1) := by decide +kernel
theorem dX0_numberSoFar_0 : decode cX0_numberSoFar 0 = .ok (.iload_n 1, 1) := by decide +kernel
theorem dX0_numberSoFar_1 : decode cX0_numberSoFar 1 = .ok (.tableswitch 60 10 14 #[35, 40, 45, 50, 55], 35) := by decide +kernel
theorem dX0_numberSoFar_36 : decode cX0_numberSoFar 36 = .ok (.aload_n 0, 1) := by decide +kernel
theorem dX0_numberSoFar_37 : decode cX0_numberSoFar 37 = .ok (.getfield 77, 3) := by decide +kernel
theorem dX0_numberSoFar_40 : decode cX0_numberSoFar 40 = .ok (.ireturn, 1) := by decide +kernel
theorem dX0_numberSoFar_41 : decode cX0_numberSoFar 41 = .ok (.aload_n 0, 1) := by decide +kernel
theorem dX0_numberSoFar_42 : decode cX0_numberSoFar 42 = .ok (.getfield 80, 3) := by decide +kernel
theorem dX0_numberSoFar_45 : decode cX0_numberSoFar 45 = .ok (.ireturn, 1) := by decide +kernel
theorem dX0_numberSoFar_46 : decode cX0_numberSoFar 46 = .ok (.aload_n 0, 1) := by decide +kernel
theorem dX0_numberSoFar_47 : decode cX0_numberSoFar 47 = .ok (.getfield 83, 3) := by decide +kernel
theorem dX0_numberSoFar_50 : decode cX0_numberSoFar 50 = .ok (.ireturn, 1) := by decide +kernel
theorem dX0_numberSoFar_51 : decode cX0_numberSoFar 51 = .ok (.aload_n 0, 1) := by decide +kernel
theorem dX0_numberSoFar_52 : decode cX0_numberSoFar 52 = .ok (.getfield 86, 3) := by decide +kernel
theorem dX0_numberSoFar_55 : decode cX0_numberSoFar 55 = .ok (.ireturn, 1) := by decide +kernel
theorem dX0_numberSoFar_56 : decode cX0_numberSoFar 56 = .ok (.aload_n 0, 1) := by decide +kernel
theorem dX0_numberSoFar_57 : decode cX0_numberSoFar 57 = .ok (.getfield 40, 3) := by decide +kernel
theorem dX0_numberSoFar_60 : decode cX0_numberSoFar 60 = .ok (.ireturn, 1) := by decide +kernel
theorem dX0_numberSoFar_61 : decode cX0_numberSoFar 61 = .ok (.aload_n 0, 1) := by decide +kernel
theorem dX0_numberSoFar_62 : decode cX0_numberSoFar 62 = .ok (.getfield 43, 3) := by decide +kernel
theorem dX0_numberSoFar_65 : decode cX0_numberSoFar 65 = .ok (.ireturn, 1) := by decide +kernel
theorem dX1_init_0 : decode cX1_init 0 = .ok (.aload_n 0, 1) := by decide +kernel
theorem dX1_init_1 : decode cX1_init 1 = .ok (.invokespecial 3, 3) := by decide +kernel
theorem dX1_init_4 : decode cX1_init 4 = .ok (.aload_n 0, 1) := by decide +kernel
theorem dX1_init_5 : decode cX1_init 5 = .ok (.iconst 4, 1) := by decide +kernel
theorem dX1_init_6 : decode cX1_init 6 = .ok (.anewarray 9, 3) := by decide +kernel
theorem dX1_init_9 : decode cX1_init 9 = .ok (.putfield 11, 3) := by decide +kernel
theorem dX1_init_12 : decode cX1_init 12 = .ok (.iconst 0, 1) := by decide +kernel
theorem dX1_init_13 : decode cX1_init 13 = .ok (.istore_n 1, 1) := by decide +kernel
theorem dX1_init_14 : decode cX1_init 14 = .ok (.iload_n 1, 1) := by decide +kernel
theorem dX1_init_15 : decode cX1_init 15 = .ok (.iconst 4, 1) := by decide +kernel
theorem dX1_init_16 : decode cX1_init 16 = .ok (.if_icmp .ge 22, 3) := by decide +kernel
theorem dX1_init_19 : decode cX1_init 19 = .ok (.aload_n 0, 1) := by decide +kernel
theorem dX1_init_20 : decode cX1_init 20 = .ok (.getfield 11, 3) := by decide +kernel
theorem dX1_init_23 : decode cX1_init 23 = .ok (.iload_n 1, 1) := by decide +kernel
theorem dX1_init_24 : decode cX1_init 24 = .ok (.new 9, 3) := by decide +kernel
theorem dX1_init_27 : decode cX1_init 27 = .ok (.dup, 1) := by decide +kernel
theorem dX1_init_28 : decode cX1_init 28 = .ok (.invokespecial 17, 3) := by decide +kernel
theorem dX1_init_31 : decode cX1_init 31 = .ok (.aastore, 1) := by decide +kernel
theorem dX1_init_32 : decode cX1_init 32 = .ok (.iinc 1 1, 3) := by decide +kernel
theorem dX1_init_35 : decode cX1_init 35 = .ok (.goto (-21), 3) := by decide +kernel
theorem dX1_init_38 : decode cX1_init 38 = .ok (.return_, 1) := by decide +kernel
theorem dX1_push_0 : decode cX1_push 0 = .ok (.aload_n 0, 1) := by decide +kernel
theorem dX1_push_1 : decode cX1_push 1 = .ok (.getfield 11, 3) := by decide +kernel
theorem dX1_push_4 : decode cX1_push 4 = .ok (.iconst 3, 1) := by decide +kernel
theorem dX1_push_5 : decode cX1_push 5 = .ok (.aaload, 1) := by decide +kernel
theorem dX1_push_6 : decode cX1_push 6 = .ok (.astore_n 2, 1) := by decide +kernel
theorem dX1_push_7 : decode cX1_push 7 = .ok (.iconst 3, 1) := by decide +kernel
theorem dX1_push_8 : decode cX1_push 8 = .ok (.istore_n 3, 1) := by decide +kernel
theorem dX1_push_9 : decode cX1_push 9 = .ok (.iload_n 3, 1) := by decide +kernel
theorem dX1_push_10 : decode cX1_push 10 = .ok (.ifCond .le 23, 3) := by decide +kernel
theorem dX1_push_13 : decode cX1_push 13 = .ok (.aload_n 0, 1) := by decide +kernel
theorem dX1_push_14 : decode cX1_push 14 = .ok (.getfield 11, 3) := by decide +kernel
theorem dX1_push_17 : decode cX1_push 17 = .ok (.iload_n 3, 1) := by decide +kernel
theorem dX1_push_18 : decode cX1_push 18 = .ok (.aload_n 0, 1) := by decide +kernel
theorem dX1_push_19 : decode cX1_push 19 = .ok (.getfield 11, 3) := by decide +kernel
theorem dX1_push_22 : decode cX1_push 22 = .ok (.iload_n 3, 1) := by decide +kernel
theorem dX1_push_23 : decode cX1_push 23 = .ok (.iconst 1, 1) := by decide +kernel
theorem dX1_push_24 : decode cX1_push 24 = .ok (.isub, 1) := by decide +kernel
theorem dX1_push_25 : decode cX1_push 25 = .ok (.aaload, 1) := by decide +kernel
theorem dX1_push_26 : decode cX1_push 26 = .ok (.aastore, 1) := by decide +kernel
theorem dX1_push_27 : decode cX1_push 27 = .ok (.iinc 3 (-1), 3) := by decide +kernel
theorem dX1_push_30 : decode cX1_push 30 = .ok (.goto (-21), 3) := by decide +kernel
theorem dX1_push_33 : decode cX1_push 33 = .ok (.aload_n 0, 1) := by decide +kernel
theorem dX1_push_34 : decode cX1_push 34 = .ok (.getfield 11, 3) := by decide +kernel
theorem dX1_push_37 : decode cX1_push 37 = .ok (.iconst 0, 1) := by decide +kernel
theorem dX1_push_38 : decode cX1_push 38 = .ok (.aload_n 2, 1) := by decide +kernel
theorem dX1_push_39 : decode cX1_push 39 = .ok (.aastore, 1) := by decide +kernel
theorem dX1_push_40 : decode cX1_push 40 = .ok (.aload_n 2, 1) := by decide +kernel
theorem dX1_push_41 : decode cX1_push 41 = .ok (.ifnull 8, 3) := by decide +kernel
theorem dX1_push_44 : decode cX1_push 44 = .ok (.aload_n 2, 1) := by decide +kernel
theorem dX1_push_45 : decode cX1_push 45 = .ok (.aload_n 1, 1) := by decide +kernel
theorem dX1_push_46 : decode cX1_push 46 = .ok (.invokevirtual 18, 3) := by decide +kernel
theorem dX1_push_49 : decode cX1_push 49 = .ok (.aload_n 0, 1) := by decide +kernel
theorem dX1_push_50 : decode cX1_push 50 = .ok (.aload_n 0, 1) := by decide +kernel
theorem dX1_push_51 : decode cX1_push 51 = .ok (.getfield 22, 3) := by decide +kernel
theorem dX1_push_54 : decode cX1_push 54 = .ok (.iconst 1, 1) := by decide +kernel
theorem dX1_push_55 : decode cX1_push 55 = .ok (.iadd, 1) := by decide +kernel
theorem dX1_push_56 : decode cX1_push 56 = .ok (.iconst 4, 1) := by decide +kernel
theorem dX1_push_57 : decode cX1_push 57 = .ok (.invokestatic 26, 3) := by decide +kernel
theorem dX1_push_60 : decode cX1_push 60 = .ok (.putfield 22, 3) := by decide +kernel
theorem dX1_push_63 : decode cX1_push 63 = .ok (.return_, 1) := by decide +kernel
theorem dX1_popInto_0 : decode cX1_popInto 0 = .ok (.aload_n 0, 1) := by decide +kernel
theorem dX1_popInto_1 : decode cX1_popInto 1 = .ok (.getfield 11, 3) := by decide +kernel
theorem dX1_popInto_4 : decode cX1_popInto 4 = .ok (.iconst 0, 1) := by decide +kernel
theorem dX1_popInto_5 : decode cX1_popInto 5 = .ok (.aaload, 1) := by decide +kernel
theorem dX1_popInto_6 : decode cX1_popInto 6 = .ok (.astore_n 2, 1) := by decide +kernel
theorem dX1_popInto_7 : decode cX1_popInto 7 = .ok (.iconst 1, 1) := by decide +kernel
theorem dX1_popInto_8 : decode cX1_popInto 8 = .ok (.istore_n 3, 1) := by decide +kernel
theorem dX1_popInto_9 : decode cX1_popInto 9 = .ok (.iload_n 3, 1) := by decide +kernel
theorem dX1_popInto_10 : decode cX1_popInto 10 = .ok (.iconst 4, 1) := by decide +kernel
theorem dX1_popInto_11 : decode cX1_popInto 11 = .ok (.if_icmp .ge 23, 3) := by decide +kernel
theorem dX1_popInto_14 : decode cX1_popInto 14 = .ok (.aload_n 0, 1) := by decide +kernel
theorem dX1_popInto_15 : decode cX1_popInto 15 = .ok (.getfield 11, 3) := by decide +kernel
theorem dX1_popInto_18 : decode cX1_popInto 18 = .ok (.iload_n 3, 1) := by decide +kernel
theorem dX1_popInto_19 : decode cX1_popInto 19 = .ok (.iconst 1, 1) := by decide +kernel
theorem dX1_popInto_20 : decode cX1_popInto 20 = .ok (.isub, 1) := by decide +kernel
theorem dX1_popInto_21 : decode cX1_popInto 21 = .ok (.aload_n 0, 1) := by decide +kernel
theorem dX1_popInto_22 : decode cX1_popInto 22 = .ok (.getfield 11, 3) := by decide +kernel
theorem dX1_popInto_25 : decode cX1_popInto 25 = .ok (.iload_n 3, 1) := by decide +kernel
theorem dX1_popInto_26 : decode cX1_popInto 26 = .ok (.aaload, 1) := by decide +kernel
theorem dX1_popInto_27 : decode cX1_popInto 27 = .ok (.aastore, 1) := by decide +kernel
theorem dX1_popInto_28 : decode cX1_popInto 28 = .ok (.iinc 3 1, 3) := by decide +kernel
theorem dX1_popInto_31 : decode cX1_popInto 31 = .ok (.goto (-22), 3) := by decide +kernel
theorem dX1_popInto_34 : decode cX1_popInto 34 = .ok (.aload_n 0, 1) := by decide +kernel
theorem dX1_popInto_35 : decode cX1_popInto 35 = .ok (.getfield 11, 3) := by decide +kernel
theorem dX1_popInto_38 : decode cX1_popInto 38 = .ok (.iconst 3, 1) := by decide +kernel
theorem dX1_popInto_39 : decode cX1_popInto 39 = .ok (.aload_n 2, 1) := by decide +kernel
theorem dX1_popInto_40 : decode cX1_popInto 40 = .ok (.aastore, 1) := by decide +kernel
theorem dX1_popInto_41 : decode cX1_popInto 41 = .ok (.aload_n 2, 1) := by decide +kernel
theorem dX1_popInto_42 : decode cX1_popInto 42 = .ok (.ifnull 8, 3) := by decide +kernel
theorem dX1_popInto_45 : decode cX1_popInto 45 = .ok (.aload_n 1, 1) := by decide +kernel
theorem dX1_popInto_46 : decode cX1_popInto 46 = .ok (.aload_n 2, 1) := by decide +kernel
theorem dX1_popInto_47 : decode cX1_popInto 47 = .ok (.invokevirtual 18, 3) := by decide +kernel
theorem dX1_popInto_50 : decode cX1_popInto 50 = .ok (.aload_n 0, 1) := by decide +kernel
theorem dX1_popInto_51 : decode cX1_popInto 51 = .ok (.aload_n 0, 1) := by decide +kernel
theorem dX1_popInto_52 : decode cX1_popInto 52 = .ok (.getfield 22, 3) := by decide +kernel
theorem dX1_popInto_55 : decode cX1_popInto 55 = .ok (.iconst 1, 1) := by decide +kernel
theorem dX1_popInto_56 : decode cX1_popInto 56 = .ok (.isub, 1) := by decide +kernel
theorem dX1_popInto_57 : decode cX1_popInto 57 = .ok (.iconst 0, 1) := by decide +kernel
theorem dX1_popInto_58 : decode cX1_popInto 58 = .ok (.invokestatic 32, 3) := by decide +kernel
theorem dX1_popInto_61 : decode cX1_popInto 61 = .ok (.putfield 22, 3) := by decide +kernel
theorem dX1_popInto_64 : decode cX1_popInto 64 = .ok (.return_, 1) := by decide +kernel
theorem dX2_init_0 : decode cX2_init 0 = .ok (.aload_n 0, 1) := by decide +kernel
theorem dX2_init_1 : decode cX2_init 1 = .ok (.invokespecial 3, 3) := by decide +kernel
theorem dX2_init_4 : decode cX2_init 4 = .ok (.aload_n 0, 1) := by decide +kernel
theorem dX2_init_5 : decode cX2_init 5 = .ok (.aload_n 1, 1) := by decide +kernel
theorem dX2_init_6 : decode cX2_init 6 = .ok (.putfield 9, 3) := by decide +kernel
theorem dX2_init_9 : decode cX2_init 9 = .ok (.return_, 1) := by decide +kernel
theorem dX2_rewind_0 : decode cX2_rewind 0 = .ok (.aload_n 0, 1) := by decide +kernel
theorem dX2_rewind_1 : decode cX2_rewind 1 = .ok (.iconst 0, 1) := by decide +kernel
theorem dX2_rewind_2 : decode cX2_rewind 2 = .ok (.putfield 15, 3) := by decide +kernel
theorem dX2_rewind_5 : decode cX2_rewind 5 = .ok (.return_, 1) := by decide +kernel
theorem dX2_firstFault_0 : decode cX2_firstFault 0 = .ok (.aload_n 0, 1) := by decide +kernel
theorem dX2_firstFault_1 : decode cX2_firstFault 1 = .ok (.invokevirtual 19, 3) := by decide +kernel
theorem dX2_firstFault_4 : decode cX2_firstFault 4 = .ok (.iconst 0, 1) := by decide +kernel
theorem dX2_firstFault_5 : decode cX2_firstFault 5 = .ok (.istore_n 1, 1) := by decide +kernel
theorem dX2_firstFault_6 : decode cX2_firstFault 6 = .ok (.iload_n 1, 1) := by decide +kernel
theorem dX2_firstFault_7 : decode cX2_firstFault 7 = .ok (.bipush 60, 2) := by decide +kernel
theorem dX2_firstFault_9 : decode cX2_firstFault 9 = .ok (.if_icmp .gt 52, 3) := by decide +kernel
theorem dX2_firstFault_12 : decode cX2_firstFault 12 = .ok (.aload_n 0, 1) := by decide +kernel
theorem dX2_firstFault_13 : decode cX2_firstFault 13 = .ok (.invokevirtual 22, 3) := by decide +kernel
theorem dX2_firstFault_16 : decode cX2_firstFault 16 = .ok (.ifCond .ne 8, 3) := by decide +kernel
theorem dX2_firstFault_19 : decode cX2_firstFault 19 = .ok (.aload_n 0, 1) := by decide +kernel
theorem dX2_firstFault_20 : decode cX2_firstFault 20 = .ok (.getfield 15, 3) := by decide +kernel
theorem dX2_firstFault_23 : decode cX2_firstFault 23 = .ok (.ireturn, 1) := by decide +kernel
theorem dX2_firstFault_24 : decode cX2_firstFault 24 = .ok (.aload_n 0, 1) := by decide +kernel
theorem dX2_firstFault_25 : decode cX2_firstFault 25 = .ok (.getfield 15, 3) := by decide +kernel
theorem dX2_firstFault_28 : decode cX2_firstFault 28 = .ok (.aload_n 0, 1) := by decide +kernel
theorem dX2_firstFault_29 : decode cX2_firstFault 29 = .ok (.getfield 9, 3) := by decide +kernel
theorem dX2_firstFault_32 : decode cX2_firstFault 32 = .ok (.getfield 26, 3) := by decide +kernel
theorem dX2_firstFault_35 : decode cX2_firstFault 35 = .ok (.if_icmp .ne 6, 3) := by decide +kernel
theorem dX2_firstFault_38 : decode cX2_firstFault 38 = .ok (.bipush (-4), 2) := by decide +kernel
theorem dX2_firstFault_40 : decode cX2_firstFault 40 = .ok (.ireturn, 1) := by decide +kernel
theorem dX2_firstFault_41 : decode cX2_firstFault 41 = .ok (.aload_n 0, 1) := by decide +kernel
theorem dX2_firstFault_42 : decode cX2_firstFault 42 = .ok (.bipush 44, 2) := by decide +kernel
theorem dX2_firstFault_44 : decode cX2_firstFault 44 = .ok (.invokevirtual 31, 3) := by decide +kernel
theorem dX2_firstFault_47 : decode cX2_firstFault 47 = .ok (.ifCond .ne 8, 3) := by decide +kernel
theorem dX2_firstFault_50 : decode cX2_firstFault 50 = .ok (.aload_n 0, 1) := by decide +kernel
theorem dX2_firstFault_51 : decode cX2_firstFault 51 = .ok (.getfield 15, 3) := by decide +kernel
theorem dX2_firstFault_54 : decode cX2_firstFault 54 = .ok (.ireturn, 1) := by decide +kernel
theorem dX2_firstFault_55 : decode cX2_firstFault 55 = .ok (.iinc 1 1, 3) := by decide +kernel
theorem dX2_firstFault_58 : decode cX2_firstFault 58 = .ok (.goto (-52), 3) := by decide +kernel
theorem dX2_firstFault_61 : decode cX2_firstFault 61 = .ok (.aload_n 0, 1) := by decide +kernel
theorem dX2_firstFault_62 : decode cX2_firstFault 62 = .ok (.getfield 15, 3) := by decide +kernel
theorem dX2_firstFault_65 : decode cX2_firstFault 65 = .ok (.ireturn, 1) := by decide +kernel
theorem dX2_readNext_0 : decode cX2_readNext 0 = .ok (.aload_n 0, 1) := by decide +kernel
theorem dX2_readNext_1 : decode cX2_readNext 1 = .ok (.getfield 15, 3) := by decide +kernel
theorem dX2_readNext_4 : decode cX2_readNext 4 = .ok (.aload_n 0, 1) := by decide +kernel
theorem dX2_readNext_5 : decode cX2_readNext 5 = .ok (.getfield 9, 3) := by decide +kernel
theorem dX2_readNext_8 : decode cX2_readNext 8 = .ok (.getfield 26, 3) := by decide +kernel
theorem dX2_readNext_11 : decode cX2_readNext 11 = .ok (.if_icmp .lt 5, 3) := by decide +kernel
theorem dX2_readNext_14 : decode cX2_readNext 14 = .ok (.iconst 0, 1) := by decide +kernel
theorem dX2_readNext_15 : decode cX2_readNext 15 = .ok (.ireturn, 1) := by decide +kernel
theorem dX2_readNext_16 : decode cX2_readNext 16 = .ok (.aload_n 0, 1) := by decide +kernel
theorem dX2_readNext_17 : decode cX2_readNext 17 = .ok (.invokevirtual 22, 3) := by decide +kernel
theorem dX2_readNext_20 : decode cX2_readNext 20 = .ok (.istore_n 1, 1) := by decide +kernel
theorem dX2_readNext_21 : decode cX2_readNext 21 = .ok (.aload_n 0, 1) := by decide +kernel
theorem dX2_readNext_22 : decode cX2_readNext 22 = .ok (.bipush 44, 2) := by decide +kernel
theorem dX2_readNext_24 : decode cX2_readNext 24 = .ok (.invokevirtual 31, 3) := by decide +kernel
theorem dX2_readNext_27 : decode cX2_readNext 27 = .ok (.pop, 1) := by decide +kernel
theorem dX2_readNext_28 : decode cX2_readNext 28 = .ok (.iload_n 1, 1) := by decide +kernel
theorem dX2_readNext_29 : decode cX2_readNext 29 = .ok (.ireturn, 1) := by decide +kernel
theorem dX2_readOrder_0 : decode cX2_readOrder 0 = .ok (.aload_n 0, 1) := by decide +kernel
theorem dX2_readOrder_1 : decode cX2_readOrder 1 = .ok (.aload_n 0, 1) := by decide +kernel
theorem dX2_readOrder_2 : decode cX2_readOrder 2 = .ok (.getfield 15, 3) := by decide +kernel
theorem dX2_readOrder_5 : decode cX2_readOrder 5 = .ok (.putfield 35, 3) := by decide +kernel
theorem dX2_readOrder_8 : decode cX2_readOrder 8 = .ok (.aload_n 0, 1) := by decide +kernel
theorem dX2_readOrder_9 : decode cX2_readOrder 9 = .ok (.aload_n 0, 1) := by decide +kernel
theorem dX2_readOrder_10 : decode cX2_readOrder 10 = .ok (.getfield 9, 3) := by decide +kernel
theorem dX2_readOrder_13 : decode cX2_readOrder 13 = .ok (.aload_n 0, 1) := by decide +kernel
theorem dX2_readOrder_14 : decode cX2_readOrder 14 = .ok (.getfield 15, 3) := by decide +kernel
theorem dX2_readOrder_17 : decode cX2_readOrder 17 = .ok (.invokevirtual 38, 3) := by decide +kernel
theorem dX2_readOrder_20 : decode cX2_readOrder 20 = .ok (.putfield 42, 3) := by decide +kernel
theorem dX2_readOrder_23 : decode cX2_readOrder 23 = .ok (.aload_n 0, 1) := by decide +kernel
theorem dX2_readOrder_24 : decode cX2_readOrder 24 = .ok (.getfield 42, 3) := by decide +kernel
theorem dX2_readOrder_27 : decode cX2_readOrder 27 = .ok (.lookupswitch 117 #[(99, 89), (100, 105), (104, 49), (116, 49), (119, 49)], 49) := by decide +kernel
theorem dX2_readOrder_76 : decode cX2_readOrder 76 = .ok (.aload_n 0, 1) := by decide +kernel
theorem dX2_readOrder_77 : decode cX2_readOrder 77 = .ok (.dup, 1) := by decide +kernel
theorem dX2_readOrder_78 : decode cX2_readOrder 78 = .ok (.getfield 15, 3) := by decide +kernel
theorem dX2_readOrder_81 : decode cX2_readOrder 81 = .ok (.iconst 1, 1) := by decide +kernel
theorem dX2_readOrder_82 : decode cX2_readOrder 82 = .ok (.iadd, 1) := by decide +kernel
theorem dX2_readOrder_83 : decode cX2_readOrder 83 = .ok (.putfield 15, 3) := by decide +kernel
theorem dX2_readOrder_86 : decode cX2_readOrder 86 = .ok (.aload_n 0, 1) := by decide +kernel
theorem dX2_readOrder_87 : decode cX2_readOrder 87 = .ok (.invokevirtual 46, 3) := by decide +kernel
theorem dX2_readOrder_90 : decode cX2_readOrder 90 = .ok (.ifCond .eq 24, 3) := by decide +kernel
theorem dX2_readOrder_93 : decode cX2_readOrder 93 = .ok (.aload_n 0, 1) := by decide +kernel
theorem dX2_readOrder_94 : decode cX2_readOrder 94 = .ok (.bipush 58, 2) := by decide +kernel
theorem dX2_readOrder_96 : decode cX2_readOrder 96 = .ok (.invokevirtual 31, 3) := by decide +kernel
theorem dX2_readOrder_99 : decode cX2_readOrder 99 = .ok (.ifCond .eq 15, 3) := by decide +kernel
theorem dX2_readOrder_102 : decode cX2_readOrder 102 = .ok (.aload_n 0, 1) := by decide +kernel
theorem dX2_readOrder_103 : decode cX2_readOrder 103 = .ok (.iconst 1, 1) := by decide +kernel
theorem dX2_readOrder_104 : decode cX2_readOrder 104 = .ok (.invokevirtual 49, 3) := by decide +kernel
theorem dX2_readOrder_107 : decode cX2_readOrder 107 = .ok (.ifCond .eq 7, 3) := by decide +kernel
theorem dX2_readOrder_110 : decode cX2_readOrder 110 = .ok (.iconst 1, 1) := by decide +kernel
theorem dX2_readOrder_111 : decode cX2_readOrder 111 = .ok (.goto 4, 3) := by decide +kernel
theorem dX2_readOrder_114 : decode cX2_readOrder 114 = .ok (.iconst 0, 1) := by decide +kernel
theorem dX2_readOrder_115 : decode cX2_readOrder 115 = .ok (.ireturn, 1) := by decide +kernel
theorem dX2_readOrder_116 : decode cX2_readOrder 116 = .ok (.aload_n 0, 1) := by decide +kernel
theorem dX2_readOrder_117 : decode cX2_readOrder 117 = .ok (.dup, 1) := by decide +kernel
theorem dX2_readOrder_118 : decode cX2_readOrder 118 = .ok (.getfield 15, 3) := by decide +kernel
theorem dX2_readOrder_121 : decode cX2_readOrder 121 = .ok (.iconst 1, 1) := by decide +kernel
theorem dX2_readOrder_122 : decode cX2_readOrder 122 = .ok (.iadd, 1) := by decide +kernel
theorem dX2_readOrder_123 : decode cX2_readOrder 123 = .ok (.putfield 15, 3) := by decide +kernel
theorem dX2_readOrder_126 : decode cX2_readOrder 126 = .ok (.aload_n 0, 1) := by decide +kernel
theorem dX2_readOrder_127 : decode cX2_readOrder 127 = .ok (.iconst 0, 1) := by decide +kernel
theorem dX2_readOrder_128 : decode cX2_readOrder 128 = .ok (.invokevirtual 49, 3) := by decide +kernel
theorem dX2_readOrder_131 : decode cX2_readOrder 131 = .ok (.ireturn, 1) := by decide +kernel
theorem dX2_readOrder_132 : decode cX2_readOrder 132 = .ok (.aload_n 0, 1) := by decide +kernel
theorem dX2_readOrder_133 : decode cX2_readOrder 133 = .ok (.dup, 1) := by decide +kernel
theorem dX2_readOrder_134 : decode cX2_readOrder 134 = .ok (.getfield 15, 3) := by decide +kernel
theorem dX2_readOrder_137 : decode cX2_readOrder 137 = .ok (.iconst 1, 1) := by decide +kernel
theorem dX2_readOrder_138 : decode cX2_readOrder 138 = .ok (.iadd, 1) := by decide +kernel
theorem dX2_readOrder_139 : decode cX2_readOrder 139 = .ok (.putfield 15, 3) := by decide +kernel
theorem dX2_readOrder_142 : decode cX2_readOrder 142 = .ok (.iconst 1, 1) := by decide +kernel
theorem dX2_readOrder_143 : decode cX2_readOrder 143 = .ok (.ireturn, 1) := by decide +kernel
theorem dX2_readOrder_144 : decode cX2_readOrder 144 = .ok (.iconst 0, 1) := by decide +kernel
theorem dX2_readOrder_145 : decode cX2_readOrder 145 = .ok (.ireturn, 1) := by decide +kernel
theorem dX2_readSign_0 : decode cX2_readSign 0 = .ok (.aload_n 0, 1) := by decide +kernel
theorem dX2_readSign_1 : decode cX2_readSign 1 = .ok (.getfield 9, 3) := by decide +kernel
theorem dX2_readSign_4 : decode cX2_readSign 4 = .ok (.aload_n 0, 1) := by decide +kernel
theorem dX2_readSign_5 : decode cX2_readSign 5 = .ok (.getfield 15, 3) := by decide +kernel
theorem dX2_readSign_8 : decode cX2_readSign 8 = .ok (.invokevirtual 38, 3) := by decide +kernel
theorem dX2_readSign_11 : decode cX2_readSign 11 = .ok (.iload_n 1, 1) := by decide +kernel
theorem dX2_readSign_12 : decode cX2_readSign 12 = .ok (.if_icmp .eq 5, 3) := by decide +kernel
theorem dX2_readSign_15 : decode cX2_readSign 15 = .ok (.iconst 0, 1) := by decide +kernel
theorem dX2_readSign_16 : decode cX2_readSign 16 = .ok (.ireturn, 1) := by decide +kernel
theorem dX2_readSign_17 : decode cX2_readSign 17 = .ok (.aload_n 0, 1) := by decide +kernel
theorem dX2_readSign_18 : decode cX2_readSign 18 = .ok (.dup, 1) := by decide +kernel
theorem dX2_readSign_19 : decode cX2_readSign 19 = .ok (.getfield 15, 3) := by decide +kernel
theorem dX2_readSign_22 : decode cX2_readSign 22 = .ok (.iconst 1, 1) := by decide +kernel
theorem dX2_readSign_23 : decode cX2_readSign 23 = .ok (.iadd, 1) := by decide +kernel
theorem dX2_readSign_24 : decode cX2_readSign 24 = .ok (.putfield 15, 3) := by decide +kernel
theorem dX2_readSign_27 : decode cX2_readSign 27 = .ok (.iconst 1, 1) := by decide +kernel
theorem dX2_readSign_28 : decode cX2_readSign 28 = .ok (.ireturn, 1) := by decide +kernel
theorem dX2_readOwner_0 : decode cX2_readOwner 0 = .ok (.aload_n 0, 1) := by decide +kernel
theorem dX2_readOwner_1 : decode cX2_readOwner 1 = .ok (.aload_n 0, 1) := by decide +kernel
theorem dX2_readOwner_2 : decode cX2_readOwner 2 = .ok (.aload_n 0, 1) := by decide +kernel
theorem dX2_readOwner_3 : decode cX2_readOwner 3 = .ok (.getfield 15, 3) := by decide +kernel
theorem dX2_readOwner_6 : decode cX2_readOwner 6 = .ok (.invokevirtual 53, 3) := by decide +kernel
theorem dX2_readOwner_9 : decode cX2_readOwner 9 = .ok (.putfield 57, 3) := by decide +kernel
theorem dX2_readOwner_12 : decode cX2_readOwner 12 = .ok (.aload_n 0, 1) := by decide +kernel
theorem dX2_readOwner_13 : decode cX2_readOwner 13 = .ok (.getfield 57, 3) := by decide +kernel
theorem dX2_readOwner_16 : decode cX2_readOwner 16 = .ok (.invokestatic 60, 3) := by decide +kernel
theorem dX2_readOwner_19 : decode cX2_readOwner 19 = .ok (.ifCond .ne 5, 3) := by decide +kernel
theorem dX2_readOwner_22 : decode cX2_readOwner 22 = .ok (.iconst 0, 1) := by decide +kernel
theorem dX2_readOwner_23 : decode cX2_readOwner 23 = .ok (.ireturn, 1) := by decide +kernel
theorem dX2_readOwner_24 : decode cX2_readOwner 24 = .ok (.aload_n 0, 1) := by decide +kernel
theorem dX2_readOwner_25 : decode cX2_readOwner 25 = .ok (.dup, 1) := by decide +kernel
theorem dX2_readOwner_26 : decode cX2_readOwner 26 = .ok (.getfield 15, 3) := by decide +kernel
theorem dX2_readOwner_29 : decode cX2_readOwner 29 = .ok (.iconst 1, 1) := by decide +kernel
theorem dX2_readOwner_30 : decode cX2_readOwner 30 = .ok (.iadd, 1) := by decide +kernel
theorem dX2_readOwner_31 : decode cX2_readOwner 31 = .ok (.putfield 15, 3) := by decide +kernel
theorem dX2_readOwner_34 : decode cX2_readOwner 34 = .ok (.iconst 1, 1) := by decide +kernel
theorem dX2_readOwner_35 : decode cX2_readOwner 35 = .ok (.ireturn, 1) := by decide +kernel
theorem dX2_readNumber_0 : decode cX2_readNumber 0 = .ok (.aload_n 0, 1) := by decide +kernel
theorem dX2_readNumber_1 : decode cX2_readNumber 1 = .ok (.aload_n 0, 1) := by decide +kernel
theorem dX2_readNumber_2 : decode cX2_readNumber 2 = .ok (.getfield 15, 3) := by decide +kernel
theorem dX2_readNumber_5 : decode cX2_readNumber 5 = .ok (.invokevirtual 53, 3) := by decide +kernel
theorem dX2_readNumber_8 : decode cX2_readNumber 8 = .ok (.istore_n 2, 1) := by decide +kernel
theorem dX2_readNumber_9 : decode cX2_readNumber 9 = .ok (.iload_n 2, 1) := by decide +kernel
theorem dX2_readNumber_10 : decode cX2_readNumber 10 = .ok (.iload_n 1, 1) := by decide +kernel
theorem dX2_readNumber_11 : decode cX2_readNumber 11 = .ok (.invokestatic 64, 3) := by decide +kernel
theorem dX2_readNumber_14 : decode cX2_readNumber 14 = .ok (.ifCond .ne 5, 3) := by decide +kernel
theorem dX2_readNumber_17 : decode cX2_readNumber 17 = .ok (.iconst 0, 1) := by decide +kernel
theorem dX2_readNumber_18 : decode cX2_readNumber 18 = .ok (.ireturn, 1) := by decide +kernel
theorem dX2_readNumber_19 : decode cX2_readNumber 19 = .ok (.aload_n 0, 1) := by decide +kernel
theorem dX2_readNumber_20 : decode cX2_readNumber 20 = .ok (.dup, 1) := by decide +kernel
theorem dX2_readNumber_21 : decode cX2_readNumber 21 = .ok (.getfield 15, 3) := by decide +kernel
theorem dX2_readNumber_24 : decode cX2_readNumber 24 = .ok (.iconst 1, 1) := by decide +kernel
theorem dX2_readNumber_25 : decode cX2_readNumber 25 = .ok (.iadd, 1) := by decide +kernel
theorem dX2_readNumber_26 : decode cX2_readNumber 26 = .ok (.putfield 15, 3) := by decide +kernel
theorem dX2_readNumber_29 : decode cX2_readNumber 29 = .ok (.aload_n 0, 1) := by decide +kernel
theorem dX2_readNumber_30 : decode cX2_readNumber 30 = .ok (.iload_n 2, 1) := by decide +kernel
theorem dX2_readNumber_31 : decode cX2_readNumber 31 = .ok (.putfield 68, 3) := by decide +kernel
theorem dX2_readNumber_34 : decode cX2_readNumber 34 = .ok (.aload_n 0, 1) := by decide +kernel
theorem dX2_readNumber_35 : decode cX2_readNumber 35 = .ok (.aload_n 0, 1) := by decide +kernel
theorem dX2_readNumber_36 : decode cX2_readNumber 36 = .ok (.getfield 15, 3) := by decide +kernel
theorem dX2_readNumber_39 : decode cX2_readNumber 39 = .ok (.invokevirtual 53, 3) := by decide +kernel
theorem dX2_readNumber_42 : decode cX2_readNumber 42 = .ok (.istore_n 3, 1) := by decide +kernel
theorem dX2_readNumber_43 : decode cX2_readNumber 43 = .ok (.iload_n 2, 1) := by decide +kernel
theorem dX2_readNumber_44 : decode cX2_readNumber 44 = .ok (.ifCond .eq 41, 3) := by decide +kernel
theorem dX2_readNumber_47 : decode cX2_readNumber 47 = .ok (.iload_n 3, 1) := by decide +kernel
theorem dX2_readNumber_48 : decode cX2_readNumber 48 = .ok (.iconst (-1), 1) := by decide +kernel
theorem dX2_readNumber_49 : decode cX2_readNumber 49 = .ok (.if_icmp .eq 36, 3) := by decide +kernel
theorem dX2_readNumber_52 : decode cX2_readNumber 52 = .ok (.bipush 10, 2) := by decide +kernel
theorem dX2_readNumber_54 : decode cX2_readNumber 54 = .ok (.iload_n 2, 1) := by decide +kernel
theorem dX2_readNumber_55 : decode cX2_readNumber 55 = .ok (.imul, 1) := by decide +kernel
theorem dX2_readNumber_56 : decode cX2_readNumber 56 = .ok (.iload_n 3, 1) := by decide +kernel
theorem dX2_readNumber_57 : decode cX2_readNumber 57 = .ok (.iadd, 1) := by decide +kernel
theorem dX2_readNumber_58 : decode cX2_readNumber 58 = .ok (.iload_n 1, 1) := by decide +kernel
theorem dX2_readNumber_59 : decode cX2_readNumber 59 = .ok (.invokestatic 64, 3) := by decide +kernel
theorem dX2_readNumber_62 : decode cX2_readNumber 62 = .ok (.ifCond .eq 23, 3) := by decide +kernel
theorem dX2_readNumber_65 : decode cX2_readNumber 65 = .ok (.aload_n 0, 1) := by decide +kernel
theorem dX2_readNumber_66 : decode cX2_readNumber 66 = .ok (.dup, 1) := by decide +kernel
theorem dX2_readNumber_67 : decode cX2_readNumber 67 = .ok (.getfield 15, 3) := by decide +kernel
theorem dX2_readNumber_70 : decode cX2_readNumber 70 = .ok (.iconst 1, 1) := by decide +kernel
theorem dX2_readNumber_71 : decode cX2_readNumber 71 = .ok (.iadd, 1) := by decide +kernel
theorem dX2_readNumber_72 : decode cX2_readNumber 72 = .ok (.putfield 15, 3) := by decide +kernel
theorem dX2_readNumber_75 : decode cX2_readNumber 75 = .ok (.aload_n 0, 1) := by decide +kernel
theorem dX2_readNumber_76 : decode cX2_readNumber 76 = .ok (.bipush 10, 2) := by decide +kernel
theorem dX2_readNumber_78 : decode cX2_readNumber 78 = .ok (.iload_n 2, 1) := by decide +kernel
theorem dX2_readNumber_79 : decode cX2_readNumber 79 = .ok (.imul, 1) := by decide +kernel
theorem dX2_readNumber_80 : decode cX2_readNumber 80 = .ok (.iload_n 3, 1) := by decide +kernel
theorem dX2_readNumber_81 : decode cX2_readNumber 81 = .ok (.iadd, 1) := by decide +kernel
theorem dX2_readNumber_82 : decode cX2_readNumber 82 = .ok (.putfield 68, 3) := by decide +kernel
theorem dX2_readNumber_85 : decode cX2_readNumber 85 = .ok (.iconst 1, 1) := by decide +kernel
theorem dX2_readNumber_86 : decode cX2_readNumber 86 = .ok (.ireturn, 1) := by decide +kernel
theorem dX2_isAllowed_0 : decode cX2_isAllowed 0 = .ok (.iload_n 1, 1) := by decide +kernel
theorem dX2_isAllowed_1 : decode cX2_isAllowed 1 = .ok (.ifCond .eq 10, 3) := by decide +kernel
theorem dX2_isAllowed_4 : decode cX2_isAllowed 4 = .ok (.iload_n 0, 1) := by decide +kernel
theorem dX2_isAllowed_5 : decode cX2_isAllowed 5 = .ok (.invokestatic 71, 3) := by decide +kernel
theorem dX2_isAllowed_8 : decode cX2_isAllowed 8 = .ok (.goto 7, 3) := by decide +kernel
theorem dX2_isAllowed_11 : decode cX2_isAllowed 11 = .ok (.iload_n 0, 1) := by decide +kernel
theorem dX2_isAllowed_12 : decode cX2_isAllowed 12 = .ok (.invokestatic 76, 3) := by decide +kernel
theorem dX2_isAllowed_15 : decode cX2_isAllowed 15 = .ok (.ireturn, 1) := by decide +kernel
theorem dX2_digitAt_0 : decode cX2_digitAt 0 = .ok (.aload_n 0, 1) := by decide +kernel
theorem dX2_digitAt_1 : decode cX2_digitAt 1 = .ok (.getfield 9, 3) := by decide +kernel
theorem dX2_digitAt_4 : decode cX2_digitAt 4 = .ok (.iload_n 1, 1) := by decide +kernel
theorem dX2_digitAt_5 : decode cX2_digitAt 5 = .ok (.invokevirtual 38, 3) := by decide +kernel
theorem dX2_digitAt_8 : decode cX2_digitAt 8 = .ok (.istore_n 2, 1) := by decide +kernel
theorem dX2_digitAt_9 : decode cX2_digitAt 9 = .ok (.iload_n 2, 1) := by decide +kernel
theorem dX2_digitAt_10 : decode cX2_digitAt 10 = .ok (.bipush 48, 2) := by decide +kernel
theorem dX2_digitAt_12 : decode cX2_digitAt 12 = .ok (.if_icmp .lt 16, 3) := by decide +kernel
theorem dX2_digitAt_15 : decode cX2_digitAt 15 = .ok (.iload_n 2, 1) := by decide +kernel
theorem dX2_digitAt_16 : decode cX2_digitAt 16 = .ok (.bipush 57, 2) := by decide +kernel
theorem dX2_digitAt_18 : decode cX2_digitAt 18 = .ok (.if_icmp .gt 10, 3) := by decide +kernel
theorem dX2_digitAt_21 : decode cX2_digitAt 21 = .ok (.iload_n 2, 1) := by decide +kernel
theorem dX2_digitAt_22 : decode cX2_digitAt 22 = .ok (.bipush 48, 2) := by decide +kernel
theorem dX2_digitAt_24 : decode cX2_digitAt 24 = .ok (.isub, 1) := by decide +kernel
theorem dX2_digitAt_25 : decode cX2_digitAt 25 = .ok (.goto 4, 3) := by decide +kernel
theorem dX2_digitAt_28 : decode cX2_digitAt 28 = .ok (.iconst (-1), 1) := by decide +kernel
theorem dX2_digitAt_29 : decode cX2_digitAt 29 = .ok (.ireturn, 1) := by decide +kernel
theorem dX3_init_0 : decode cX3_init 0 = .ok (.aload_n 0, 1) := by decide +kernel
theorem dX3_init_1 : decode cX3_init 1 = .ok (.invokespecial 3, 3) := by decide +kernel
theorem dX3_init_4 : decode cX3_init 4 = .ok (.aload_n 0, 1) := by decide +kernel
theorem dX3_init_5 : decode cX3_init 5 = .ok (.bipush 60, 2) := by decide +kernel
theorem dX3_init_7 : decode cX3_init 7 = .ok (.newarray .char, 2) := by decide +kernel
theorem dX3_init_9 : decode cX3_init 9 = .ok (.putfield 9, 3) := by decide +kernel
theorem dX3_init_12 : decode cX3_init 12 = .ok (.return_, 1) := by decide +kernel
theorem dX3_add_0 : decode cX3_add 0 = .ok (.aload_n 0, 1) := by decide +kernel
theorem dX3_add_1 : decode cX3_add 1 = .ok (.getfield 15, 3) := by decide +kernel
theorem dX3_add_4 : decode cX3_add 4 = .ok (.iconst 0, 1) := by decide +kernel
theorem dX3_add_5 : decode cX3_add 5 = .ok (.bipush 59, 2) := by decide +kernel
theorem dX3_add_7 : decode cX3_add 7 = .ok (.invokestatic 19, 3) := by decide +kernel
theorem dX3_add_10 : decode cX3_add 10 = .ok (.ifCond .eq 23, 3) := by decide +kernel
theorem dX3_add_13 : decode cX3_add 13 = .ok (.aload_n 0, 1) := by decide +kernel
theorem dX3_add_14 : decode cX3_add 14 = .ok (.getfield 9, 3) := by decide +kernel
theorem dX3_add_17 : decode cX3_add 17 = .ok (.aload_n 0, 1) := by decide +kernel
theorem dX3_add_18 : decode cX3_add 18 = .ok (.getfield 15, 3) := by decide +kernel
theorem dX3_add_21 : decode cX3_add 21 = .ok (.iload_n 1, 1) := by decide +kernel
theorem dX3_add_22 : decode cX3_add 22 = .ok (.castore, 1) := by decide +kernel
theorem dX3_add_23 : decode cX3_add 23 = .ok (.aload_n 0, 1) := by decide +kernel
theorem dX3_add_24 : decode cX3_add 24 = .ok (.dup, 1) := by decide +kernel
theorem dX3_add_25 : decode cX3_add 25 = .ok (.getfield 15, 3) := by decide +kernel
theorem dX3_add_28 : decode cX3_add 28 = .ok (.iconst 1, 1) := by decide +kernel
theorem dX3_add_29 : decode cX3_add 29 = .ok (.iadd, 1) := by decide +kernel
theorem dX3_add_30 : decode cX3_add 30 = .ok (.putfield 15, 3) := by decide +kernel
theorem dX3_add_33 : decode cX3_add 33 = .ok (.return_, 1) := by decide +kernel
theorem dX3_signAt_0 : decode cX3_signAt 0 = .ok (.iload_n 1, 1) := by decide +kernel
theorem dX3_signAt_1 : decode cX3_signAt 1 = .ok (.iconst 0, 1) := by decide +kernel
theorem dX3_signAt_2 : decode cX3_signAt 2 = .ok (.bipush 59, 2) := by decide +kernel
theorem dX3_signAt_4 : decode cX3_signAt 4 = .ok (.invokestatic 19, 3) := by decide +kernel
theorem dX3_signAt_7 : decode cX3_signAt 7 = .ok (.ifCond .eq 20, 3) := by decide +kernel
theorem dX3_signAt_10 : decode cX3_signAt 10 = .ok (.iload_n 1, 1) := by decide +kernel
theorem dX3_signAt_11 : decode cX3_signAt 11 = .ok (.aload_n 0, 1) := by decide +kernel
theorem dX3_signAt_12 : decode cX3_signAt 12 = .ok (.getfield 15, 3) := by decide +kernel
theorem dX3_signAt_15 : decode cX3_signAt 15 = .ok (.if_icmp .ge 12, 3) := by decide +kernel
theorem dX3_signAt_18 : decode cX3_signAt 18 = .ok (.aload_n 0, 1) := by decide +kernel
theorem dX3_signAt_19 : decode cX3_signAt 19 = .ok (.getfield 9, 3) := by decide +kernel
theorem dX3_signAt_22 : decode cX3_signAt 22 = .ok (.iload_n 1, 1) := by decide +kernel
theorem dX3_signAt_23 : decode cX3_signAt 23 = .ok (.caload, 1) := by decide +kernel
theorem dX3_signAt_24 : decode cX3_signAt 24 = .ok (.goto 5, 3) := by decide +kernel
theorem dX3_signAt_27 : decode cX3_signAt 27 = .ok (.bipush 32, 2) := by decide +kernel
theorem dX3_signAt_29 : decode cX3_signAt 29 = .ok (.ireturn, 1) := by decide +kernel
theorem dX4_isGangway_0 : decode cX4_isGangway 0 = .ok (.iload_n 0, 1) := by decide +kernel
theorem dX4_isGangway_1 : decode cX4_isGangway 1 = .ok (.iconst 0, 1) := by decide +kernel
theorem dX4_isGangway_2 : decode cX4_isGangway 2 = .ok (.bipush 27, 2) := by decide +kernel
theorem dX4_isGangway_4 : decode cX4_isGangway 4 = .ok (.invokestatic 9, 3) := by decide +kernel
theorem dX4_isGangway_7 : decode cX4_isGangway 7 = .ok (.ifCond .ne 5, 3) := by decide +kernel
theorem dX4_isGangway_10 : decode cX4_isGangway 10 = .ok (.iconst 0, 1) := by decide +kernel
theorem dX4_isGangway_11 : decode cX4_isGangway 11 = .ok (.ireturn, 1) := by decide +kernel
theorem dX4_isGangway_12 : decode cX4_isGangway 12 = .ok (.iload_n 0, 1) := by decide +kernel
theorem dX4_isGangway_13 : decode cX4_isGangway 13 = .ok (.bipush 16, 2) := by decide +kernel
theorem dX4_isGangway_15 : decode cX4_isGangway 15 = .ok (.if_icmp .ge 10, 3) := by decide +kernel
theorem dX4_isGangway_18 : decode cX4_isGangway 18 = .ok (.iload_n 0, 1) := by decide +kernel
theorem dX4_isGangway_19 : decode cX4_isGangway 19 = .ok (.iconst 4, 1) := by decide +kernel
theorem dX4_isGangway_20 : decode cX4_isGangway 20 = .ok (.irem, 1) := by decide +kernel
theorem dX4_isGangway_21 : decode cX4_isGangway 21 = .ok (.iconst 3, 1) := by decide +kernel
theorem dX4_isGangway_22 : decode cX4_isGangway 22 = .ok (.if_icmp .eq 7, 3) := by decide +kernel
theorem dX4_isGangway_25 : decode cX4_isGangway 25 = .ok (.iconst 1, 1) := by decide +kernel
theorem dX4_isGangway_26 : decode cX4_isGangway 26 = .ok (.goto 4, 3) := by decide +kernel
theorem dX4_isGangway_29 : decode cX4_isGangway 29 = .ok (.iconst 0, 1) := by decide +kernel
theorem dX4_isGangway_30 : decode cX4_isGangway 30 = .ok (.ireturn, 1) := by decide +kernel
theorem dX4_lesserRoof_0 : decode cX4_lesserRoof 0 = .ok (.iload_n 0, 1) := by decide +kernel
theorem dX4_lesserRoof_1 : decode cX4_lesserRoof 1 = .ok (.bipush 16, 2) := by decide +kernel
theorem dX4_lesserRoof_3 : decode cX4_lesserRoof 3 = .ok (.if_icmp .ge 7, 3) := by decide +kernel
theorem dX4_lesserRoof_6 : decode cX4_lesserRoof 6 = .ok (.iload_n 0, 1) := by decide +kernel
theorem dX4_lesserRoof_7 : decode cX4_lesserRoof 7 = .ok (.goto 7, 3) := by decide +kernel
theorem dX4_lesserRoof_10 : decode cX4_lesserRoof 10 = .ok (.iload_n 0, 1) := by decide +kernel
theorem dX4_lesserRoof_11 : decode cX4_lesserRoof 11 = .ok (.bipush 16, 2) := by decide +kernel
theorem dX4_lesserRoof_13 : decode cX4_lesserRoof 13 = .ok (.isub, 1) := by decide +kernel
theorem dX4_lesserRoof_14 : decode cX4_lesserRoof 14 = .ok (.ireturn, 1) := by decide +kernel
theorem dX4_greaterRoof_0 : decode cX4_greaterRoof 0 = .ok (.iload_n 0, 1) := by decide +kernel
theorem dX4_greaterRoof_1 : decode cX4_greaterRoof 1 = .ok (.invokestatic 13, 3) := by decide +kernel
theorem dX4_greaterRoof_4 : decode cX4_greaterRoof 4 = .ok (.iload_n 0, 1) := by decide +kernel
theorem dX4_greaterRoof_5 : decode cX4_greaterRoof 5 = .ok (.bipush 16, 2) := by decide +kernel
theorem dX4_greaterRoof_7 : decode cX4_greaterRoof 7 = .ok (.if_icmp .ge 7, 3) := by decide +kernel
theorem dX4_greaterRoof_10 : decode cX4_greaterRoof 10 = .ok (.iconst 1, 1) := by decide +kernel
theorem dX4_greaterRoof_11 : decode cX4_greaterRoof 11 = .ok (.goto 4, 3) := by decide +kernel
theorem dX4_greaterRoof_14 : decode cX4_greaterRoof 14 = .ok (.iconst 4, 1) := by decide +kernel
theorem dX4_greaterRoof_15 : decode cX4_greaterRoof 15 = .ok (.iadd, 1) := by decide +kernel
theorem dX4_greaterRoof_16 : decode cX4_greaterRoof 16 = .ok (.ireturn, 1) := by decide +kernel
theorem dX4_roofsOf_0 : decode cX4_roofsOf 0 = .ok (.iconst 1, 1) := by decide +kernel
theorem dX4_roofsOf_1 : decode cX4_roofsOf 1 = .ok (.iload_n 0, 1) := by decide +kernel
theorem dX4_roofsOf_2 : decode cX4_roofsOf 2 = .ok (.invokestatic 13, 3) := by decide +kernel
theorem dX4_roofsOf_5 : decode cX4_roofsOf 5 = .ok (.ishl, 1) := by decide +kernel
theorem dX4_roofsOf_6 : decode cX4_roofsOf 6 = .ok (.iconst 1, 1) := by decide +kernel
theorem dX4_roofsOf_7 : decode cX4_roofsOf 7 = .ok (.iload_n 0, 1) := by decide +kernel
theorem dX4_roofsOf_8 : decode cX4_roofsOf 8 = .ok (.invokestatic 19, 3) := by decide +kernel
theorem dX4_roofsOf_11 : decode cX4_roofsOf 11 = .ok (.ishl, 1) := by decide +kernel
theorem dX4_roofsOf_12 : decode cX4_roofsOf 12 = .ok (.ior, 1) := by decide +kernel
theorem dX4_roofsOf_13 : decode cX4_roofsOf 13 = .ok (.ireturn, 1) := by decide +kernel
theorem dX4_otherRoof_0 : decode cX4_otherRoof 0 = .ok (.iload_n 1, 1) := by decide +kernel
theorem dX4_otherRoof_1 : decode cX4_otherRoof 1 = .ok (.iload_n 0, 1) := by decide +kernel
theorem dX4_otherRoof_2 : decode cX4_otherRoof 2 = .ok (.invokestatic 13, 3) := by decide +kernel
theorem dX4_otherRoof_5 : decode cX4_otherRoof 5 = .ok (.if_icmp .ne 10, 3) := by decide +kernel
theorem dX4_otherRoof_8 : decode cX4_otherRoof 8 = .ok (.iload_n 0, 1) := by decide +kernel
theorem dX4_otherRoof_9 : decode cX4_otherRoof 9 = .ok (.invokestatic 19, 3) := by decide +kernel
theorem dX4_otherRoof_12 : decode cX4_otherRoof 12 = .ok (.goto 7, 3) := by decide +kernel
theorem dX4_otherRoof_15 : decode cX4_otherRoof 15 = .ok (.iload_n 0, 1) := by decide +kernel
theorem dX4_otherRoof_16 : decode cX4_otherRoof 16 = .ok (.invokestatic 13, 3) := by decide +kernel
theorem dX4_otherRoof_19 : decode cX4_otherRoof 19 = .ok (.ireturn, 1) := by decide +kernel
theorem dX4_gangwaysOf_0 : decode cX4_gangwaysOf 0 = .ok (.iconst 0, 1) := by decide +kernel
theorem dX4_gangwaysOf_1 : decode cX4_gangwaysOf 1 = .ok (.istore_n 1, 1) := by decide +kernel
theorem dX4_gangwaysOf_2 : decode cX4_gangwaysOf 2 = .ok (.iconst 0, 1) := by decide +kernel
theorem dX4_gangwaysOf_3 : decode cX4_gangwaysOf 3 = .ok (.istore_n 2, 1) := by decide +kernel
theorem dX4_gangwaysOf_4 : decode cX4_gangwaysOf 4 = .ok (.iload_n 2, 1) := by decide +kernel
theorem dX4_gangwaysOf_5 : decode cX4_gangwaysOf 5 = .ok (.bipush 28, 2) := by decide +kernel
theorem dX4_gangwaysOf_7 : decode cX4_gangwaysOf 7 = .ok (.if_icmp .ge 33, 3) := by decide +kernel
theorem dX4_gangwaysOf_10 : decode cX4_gangwaysOf 10 = .ok (.iload_n 2, 1) := by decide +kernel
theorem dX4_gangwaysOf_11 : decode cX4_gangwaysOf 11 = .ok (.invokestatic 22, 3) := by decide +kernel
theorem dX4_gangwaysOf_14 : decode cX4_gangwaysOf 14 = .ok (.ifCond .eq 20, 3) := by decide +kernel
theorem dX4_gangwaysOf_17 : decode cX4_gangwaysOf 17 = .ok (.iload_n 2, 1) := by decide +kernel
theorem dX4_gangwaysOf_18 : decode cX4_gangwaysOf 18 = .ok (.invokestatic 26, 3) := by decide +kernel
theorem dX4_gangwaysOf_21 : decode cX4_gangwaysOf 21 = .ok (.iload_n 0, 1) := by decide +kernel
theorem dX4_gangwaysOf_22 : decode cX4_gangwaysOf 22 = .ok (.invokestatic 29, 3) := by decide +kernel
theorem dX4_gangwaysOf_25 : decode cX4_gangwaysOf 25 = .ok (.ifCond .eq 9, 3) := by decide +kernel
theorem dX4_gangwaysOf_28 : decode cX4_gangwaysOf 28 = .ok (.iload_n 1, 1) := by decide +kernel
theorem dX4_gangwaysOf_29 : decode cX4_gangwaysOf 29 = .ok (.iconst 1, 1) := by decide +kernel
theorem dX4_gangwaysOf_30 : decode cX4_gangwaysOf 30 = .ok (.iload_n 2, 1) := by decide +kernel
theorem dX4_gangwaysOf_31 : decode cX4_gangwaysOf 31 = .ok (.ishl, 1) := by decide +kernel
theorem dX4_gangwaysOf_32 : decode cX4_gangwaysOf 32 = .ok (.ior, 1) := by decide +kernel
theorem dX4_gangwaysOf_33 : decode cX4_gangwaysOf 33 = .ok (.istore_n 1, 1) := by decide +kernel
theorem dX4_gangwaysOf_34 : decode cX4_gangwaysOf 34 = .ok (.iinc 2 1, 3) := by decide +kernel
theorem dX4_gangwaysOf_37 : decode cX4_gangwaysOf 37 = .ok (.goto (-33), 3) := by decide +kernel
theorem dX4_gangwaysOf_40 : decode cX4_gangwaysOf 40 = .ok (.iload_n 1, 1) := by decide +kernel
theorem dX4_gangwaysOf_41 : decode cX4_gangwaysOf 41 = .ok (.ireturn, 1) := by decide +kernel
theorem dX4_nextRoof_0 : decode cX4_nextRoof 0 = .ok (.iload_n 1, 1) := by decide +kernel
theorem dX4_nextRoof_1 : decode cX4_nextRoof 1 = .ok (.tableswitch 70 0 2 #[27, 42, 56], 27) := by decide +kernel
theorem dX4_nextRoof_28 : decode cX4_nextRoof 28 = .ok (.iload_n 0, 1) := by decide +kernel
theorem dX4_nextRoof_29 : decode cX4_nextRoof 29 = .ok (.iconst 4, 1) := by decide +kernel
theorem dX4_nextRoof_30 : decode cX4_nextRoof 30 = .ok (.irem, 1) := by decide +kernel
theorem dX4_nextRoof_31 : decode cX4_nextRoof 31 = .ok (.iconst 3, 1) := by decide +kernel
theorem dX4_nextRoof_32 : decode cX4_nextRoof 32 = .ok (.if_icmp .ge 9, 3) := by decide +kernel
theorem dX4_nextRoof_35 : decode cX4_nextRoof 35 = .ok (.iload_n 0, 1) := by decide +kernel
theorem dX4_nextRoof_36 : decode cX4_nextRoof 36 = .ok (.iconst 1, 1) := by decide +kernel
theorem dX4_nextRoof_37 : decode cX4_nextRoof 37 = .ok (.iadd, 1) := by decide +kernel
theorem dX4_nextRoof_38 : decode cX4_nextRoof 38 = .ok (.goto 4, 3) := by decide +kernel
theorem dX4_nextRoof_41 : decode cX4_nextRoof 41 = .ok (.iconst (-1), 1) := by decide +kernel
theorem dX4_nextRoof_42 : decode cX4_nextRoof 42 = .ok (.ireturn, 1) := by decide +kernel
theorem dX4_nextRoof_43 : decode cX4_nextRoof 43 = .ok (.iload_n 0, 1) := by decide +kernel
theorem dX4_nextRoof_44 : decode cX4_nextRoof 44 = .ok (.bipush 12, 2) := by decide +kernel
theorem dX4_nextRoof_46 : decode cX4_nextRoof 46 = .ok (.if_icmp .ge 9, 3) := by decide +kernel
theorem dX4_nextRoof_49 : decode cX4_nextRoof 49 = .ok (.iload_n 0, 1) := by decide +kernel
theorem dX4_nextRoof_50 : decode cX4_nextRoof 50 = .ok (.iconst 4, 1) := by decide +kernel
theorem dX4_nextRoof_51 : decode cX4_nextRoof 51 = .ok (.iadd, 1) := by decide +kernel
theorem dX4_nextRoof_52 : decode cX4_nextRoof 52 = .ok (.goto 4, 3) := by decide +kernel
theorem dX4_nextRoof_55 : decode cX4_nextRoof 55 = .ok (.iconst (-1), 1) := by decide +kernel
theorem dX4_nextRoof_56 : decode cX4_nextRoof 56 = .ok (.ireturn, 1) := by decide +kernel
theorem dX4_nextRoof_57 : decode cX4_nextRoof 57 = .ok (.iload_n 0, 1) := by decide +kernel
theorem dX4_nextRoof_58 : decode cX4_nextRoof 58 = .ok (.iconst 4, 1) := by decide +kernel
theorem dX4_nextRoof_59 : decode cX4_nextRoof 59 = .ok (.irem, 1) := by decide +kernel
theorem dX4_nextRoof_60 : decode cX4_nextRoof 60 = .ok (.ifCond .le 9, 3) := by decide +kernel
theorem dX4_nextRoof_63 : decode cX4_nextRoof 63 = .ok (.iload_n 0, 1) := by decide +kernel
theorem dX4_nextRoof_64 : decode cX4_nextRoof 64 = .ok (.iconst 1, 1) := by decide +kernel
theorem dX4_nextRoof_65 : decode cX4_nextRoof 65 = .ok (.isub, 1) := by decide +kernel
theorem dX4_nextRoof_66 : decode cX4_nextRoof 66 = .ok (.goto 4, 3) := by decide +kernel
theorem dX4_nextRoof_69 : decode cX4_nextRoof 69 = .ok (.iconst (-1), 1) := by decide +kernel
theorem dX4_nextRoof_70 : decode cX4_nextRoof 70 = .ok (.ireturn, 1) := by decide +kernel
theorem dX4_nextRoof_71 : decode cX4_nextRoof 71 = .ok (.iload_n 0, 1) := by decide +kernel
theorem dX4_nextRoof_72 : decode cX4_nextRoof 72 = .ok (.iconst 4, 1) := by decide +kernel
theorem dX4_nextRoof_73 : decode cX4_nextRoof 73 = .ok (.if_icmp .lt 9, 3) := by decide +kernel
theorem dX4_nextRoof_76 : decode cX4_nextRoof 76 = .ok (.iload_n 0, 1) := by decide +kernel
theorem dX4_nextRoof_77 : decode cX4_nextRoof 77 = .ok (.iconst 4, 1) := by decide +kernel
theorem dX4_nextRoof_78 : decode cX4_nextRoof 78 = .ok (.isub, 1) := by decide +kernel
theorem dX4_nextRoof_79 : decode cX4_nextRoof 79 = .ok (.goto 4, 3) := by decide +kernel
theorem dX4_nextRoof_82 : decode cX4_nextRoof 82 = .ok (.iconst (-1), 1) := by decide +kernel
theorem dX4_nextRoof_83 : decode cX4_nextRoof 83 = .ok (.ireturn, 1) := by decide +kernel
theorem dX4_roofAndNext_0 : decode cX4_roofAndNext 0 = .ok (.iconst 0, 1) := by decide +kernel
theorem dX4_roofAndNext_1 : decode cX4_roofAndNext 1 = .ok (.istore_n 3, 1) := by decide +kernel
theorem dX4_roofAndNext_2 : decode cX4_roofAndNext 2 = .ok (.iload_n 0, 1) := by decide +kernel
theorem dX4_roofAndNext_3 : decode cX4_roofAndNext 3 = .ok (.istore 4, 2) := by decide +kernel
theorem dX4_roofAndNext_5 : decode cX4_roofAndNext 5 = .ok (.iconst 0, 1) := by decide +kernel
theorem dX4_roofAndNext_6 : decode cX4_roofAndNext 6 = .ok (.istore 5, 2) := by decide +kernel
theorem dX4_roofAndNext_8 : decode cX4_roofAndNext 8 = .ok (.iload 5, 2) := by decide +kernel
theorem dX4_roofAndNext_10 : decode cX4_roofAndNext 10 = .ok (.iload_n 2, 1) := by decide +kernel
theorem dX4_roofAndNext_11 : decode cX4_roofAndNext 11 = .ok (.if_icmp .gt 30, 3) := by decide +kernel
theorem dX4_roofAndNext_14 : decode cX4_roofAndNext 14 = .ok (.iload 4, 2) := by decide +kernel
theorem dX4_roofAndNext_16 : decode cX4_roofAndNext 16 = .ok (.iconst (-1), 1) := by decide +kernel
theorem dX4_roofAndNext_17 : decode cX4_roofAndNext 17 = .ok (.if_icmp .eq 24, 3) := by decide +kernel
theorem dX4_roofAndNext_20 : decode cX4_roofAndNext 20 = .ok (.iload_n 3, 1) := by decide +kernel
theorem dX4_roofAndNext_21 : decode cX4_roofAndNext 21 = .ok (.iconst 1, 1) := by decide +kernel
theorem dX4_roofAndNext_22 : decode cX4_roofAndNext 22 = .ok (.iload 4, 2) := by decide +kernel
theorem dX4_roofAndNext_24 : decode cX4_roofAndNext 24 = .ok (.ishl, 1) := by decide +kernel
theorem dX4_roofAndNext_25 : decode cX4_roofAndNext 25 = .ok (.ior, 1) := by decide +kernel
theorem dX4_roofAndNext_26 : decode cX4_roofAndNext 26 = .ok (.istore_n 3, 1) := by decide +kernel
theorem dX4_roofAndNext_27 : decode cX4_roofAndNext 27 = .ok (.iload 4, 2) := by decide +kernel
theorem dX4_roofAndNext_29 : decode cX4_roofAndNext 29 = .ok (.iload_n 1, 1) := by decide +kernel
theorem dX4_roofAndNext_30 : decode cX4_roofAndNext 30 = .ok (.invokestatic 33, 3) := by decide +kernel
theorem dX4_roofAndNext_33 : decode cX4_roofAndNext 33 = .ok (.istore 4, 2) := by decide +kernel
theorem dX4_roofAndNext_35 : decode cX4_roofAndNext 35 = .ok (.iinc 5 1, 3) := by decide +kernel
theorem dX4_roofAndNext_38 : decode cX4_roofAndNext 38 = .ok (.goto (-30), 3) := by decide +kernel
theorem dX4_roofAndNext_41 : decode cX4_roofAndNext 41 = .ok (.iload_n 3, 1) := by decide +kernel
theorem dX4_roofAndNext_42 : decode cX4_roofAndNext 42 = .ok (.ireturn, 1) := by decide +kernel
theorem dX4_roofAndNeighbours_0 : decode cX4_roofAndNeighbours 0 = .ok (.iconst 1, 1) := by decide +kernel
theorem dX4_roofAndNeighbours_1 : decode cX4_roofAndNeighbours 1 = .ok (.iload_n 0, 1) := by decide +kernel
theorem dX4_roofAndNeighbours_2 : decode cX4_roofAndNeighbours 2 = .ok (.ishl, 1) := by decide +kernel
theorem dX4_roofAndNeighbours_3 : decode cX4_roofAndNeighbours 3 = .ok (.istore_n 1, 1) := by decide +kernel
theorem dX4_roofAndNeighbours_4 : decode cX4_roofAndNeighbours 4 = .ok (.iconst 0, 1) := by decide +kernel
theorem dX4_roofAndNeighbours_5 : decode cX4_roofAndNeighbours 5 = .ok (.istore_n 2, 1) := by decide +kernel
theorem dX4_roofAndNeighbours_6 : decode cX4_roofAndNeighbours 6 = .ok (.iload_n 2, 1) := by decide +kernel
theorem dX4_roofAndNeighbours_7 : decode cX4_roofAndNeighbours 7 = .ok (.iconst 4, 1) := by decide +kernel
theorem dX4_roofAndNeighbours_8 : decode cX4_roofAndNeighbours 8 = .ok (.if_icmp .ge 26, 3) := by decide +kernel
theorem dX4_roofAndNeighbours_11 : decode cX4_roofAndNeighbours 11 = .ok (.iload_n 0, 1) := by decide +kernel
theorem dX4_roofAndNeighbours_12 : decode cX4_roofAndNeighbours 12 = .ok (.iload_n 2, 1) := by decide +kernel
theorem dX4_roofAndNeighbours_13 : decode cX4_roofAndNeighbours 13 = .ok (.invokestatic 33, 3) := by decide +kernel
theorem dX4_roofAndNeighbours_16 : decode cX4_roofAndNeighbours 16 = .ok (.istore_n 3, 1) := by decide +kernel
theorem dX4_roofAndNeighbours_17 : decode cX4_roofAndNeighbours 17 = .ok (.iload_n 3, 1) := by decide +kernel
theorem dX4_roofAndNeighbours_18 : decode cX4_roofAndNeighbours 18 = .ok (.iconst (-1), 1) := by decide +kernel
theorem dX4_roofAndNeighbours_19 : decode cX4_roofAndNeighbours 19 = .ok (.if_icmp .eq 9, 3) := by decide +kernel
theorem dX4_roofAndNeighbours_22 : decode cX4_roofAndNeighbours 22 = .ok (.iload_n 1, 1) := by decide +kernel
theorem dX4_roofAndNeighbours_23 : decode cX4_roofAndNeighbours 23 = .ok (.iconst 1, 1) := by decide +kernel
theorem dX4_roofAndNeighbours_24 : decode cX4_roofAndNeighbours 24 = .ok (.iload_n 3, 1) := by decide +kernel
theorem dX4_roofAndNeighbours_25 : decode cX4_roofAndNeighbours 25 = .ok (.ishl, 1) := by decide +kernel
theorem dX4_roofAndNeighbours_26 : decode cX4_roofAndNeighbours 26 = .ok (.ior, 1) := by decide +kernel
theorem dX4_roofAndNeighbours_27 : decode cX4_roofAndNeighbours 27 = .ok (.istore_n 1, 1) := by decide +kernel
theorem dX4_roofAndNeighbours_28 : decode cX4_roofAndNeighbours 28 = .ok (.iinc 2 1, 3) := by decide +kernel
theorem dX4_roofAndNeighbours_31 : decode cX4_roofAndNeighbours 31 = .ok (.goto (-25), 3) := by decide +kernel
theorem dX4_roofAndNeighbours_34 : decode cX4_roofAndNeighbours 34 = .ok (.iload_n 1, 1) := by decide +kernel
theorem dX4_roofAndNeighbours_35 : decode cX4_roofAndNeighbours 35 = .ok (.ireturn, 1) := by decide +kernel
theorem dX5_init_0 : decode cX5_init 0 = .ok (.aload_n 0, 1) := by decide +kernel
theorem dX5_init_1 : decode cX5_init 1 = .ok (.invokespecial 3, 3) := by decide +kernel
theorem dX5_init_4 : decode cX5_init 4 = .ok (.aload_n 0, 1) := by decide +kernel
theorem dX5_init_5 : decode cX5_init 5 = .ok (.bipush 16, 2) := by decide +kernel
theorem dX5_init_7 : decode cX5_init 7 = .ok (.newarray .int, 2) := by decide +kernel
theorem dX5_init_9 : decode cX5_init 9 = .ok (.putfield 9, 3) := by decide +kernel
theorem dX5_init_12 : decode cX5_init 12 = .ok (.aload_n 0, 1) := by decide +kernel
theorem dX5_init_13 : decode cX5_init 13 = .ok (.bipush 16, 2) := by decide +kernel
theorem dX5_init_15 : decode cX5_init 15 = .ok (.newarray .int, 2) := by decide +kernel
theorem dX5_init_17 : decode cX5_init 17 = .ok (.putfield 15, 3) := by decide +kernel
theorem dX5_init_20 : decode cX5_init 20 = .ok (.return_, 1) := by decide +kernel
theorem dX5_strongestByJoining_0 : decode cX5_strongestByJoining 0 = .ok (.iload_n 2, 1) := by decide +kernel
theorem dX5_strongestByJoining_1 : decode cX5_strongestByJoining 1 = .ok (.iload_n 3, 1) := by decide +kernel
theorem dX5_strongestByJoining_2 : decode cX5_strongestByJoining 2 = .ok (.if_icmp .ne 6, 3) := by decide +kernel
theorem dX5_strongestByJoining_5 : decode cX5_strongestByJoining 5 = .ok (.bipush 10, 2) := by decide +kernel
theorem dX5_strongestByJoining_7 : decode cX5_strongestByJoining 7 = .ok (.ireturn, 1) := by decide +kernel
theorem dX5_strongestByJoining_8 : decode cX5_strongestByJoining 8 = .ok (.iconst 0, 1) := by decide +kernel
theorem dX5_strongestByJoining_9 : decode cX5_strongestByJoining 9 = .ok (.istore 4, 2) := by decide +kernel
theorem dX5_strongestByJoining_11 : decode cX5_strongestByJoining 11 = .ok (.iload 4, 2) := by decide +kernel
theorem dX5_strongestByJoining_13 : decode cX5_strongestByJoining 13 = .ok (.bipush 16, 2) := by decide +kernel
theorem dX5_strongestByJoining_15 : decode cX5_strongestByJoining 15 = .ok (.if_icmp .ge 18, 3) := by decide +kernel
theorem dX5_strongestByJoining_18 : decode cX5_strongestByJoining 18 = .ok (.aload_n 0, 1) := by decide +kernel
theorem dX5_strongestByJoining_19 : decode cX5_strongestByJoining 19 = .ok (.getfield 9, 3) := by decide +kernel
theorem dX5_strongestByJoining_22 : decode cX5_strongestByJoining 22 = .ok (.iload 4, 2) := by decide +kernel
theorem dX5_strongestByJoining_24 : decode cX5_strongestByJoining 24 = .ok (.iload 4, 2) := by decide +kernel
theorem dX5_strongestByJoining_26 : decode cX5_strongestByJoining 26 = .ok (.iastore, 1) := by decide +kernel
theorem dX5_strongestByJoining_27 : decode cX5_strongestByJoining 27 = .ok (.iinc 4 1, 3) := by decide +kernel
theorem dX5_strongestByJoining_30 : decode cX5_strongestByJoining 30 = .ok (.goto (-19), 3) := by decide +kernel
theorem dX5_strongestByJoining_33 : decode cX5_strongestByJoining 33 = .ok (.bipush 9, 2) := by decide +kernel
theorem dX5_strongestByJoining_35 : decode cX5_strongestByJoining 35 = .ok (.istore 4, 2) := by decide +kernel
theorem dX5_strongestByJoining_37 : decode cX5_strongestByJoining 37 = .ok (.iload 4, 2) := by decide +kernel
theorem dX5_strongestByJoining_39 : decode cX5_strongestByJoining 39 = .ok (.ifCond .le 34, 3) := by decide +kernel
theorem dX5_strongestByJoining_42 : decode cX5_strongestByJoining 42 = .ok (.aload_n 0, 1) := by decide +kernel
theorem dX5_strongestByJoining_43 : decode cX5_strongestByJoining 43 = .ok (.aload_n 1, 1) := by decide +kernel
theorem dX5_strongestByJoining_44 : decode cX5_strongestByJoining 44 = .ok (.iload 4, 2) := by decide +kernel
theorem dX5_strongestByJoining_46 : decode cX5_strongestByJoining 46 = .ok (.invokevirtual 18, 3) := by decide +kernel
theorem dX5_strongestByJoining_49 : decode cX5_strongestByJoining 49 = .ok (.aload_n 0, 1) := by decide +kernel
theorem dX5_strongestByJoining_50 : decode cX5_strongestByJoining 50 = .ok (.getfield 9, 3) := by decide +kernel
theorem dX5_strongestByJoining_53 : decode cX5_strongestByJoining 53 = .ok (.iload_n 2, 1) := by decide +kernel
theorem dX5_strongestByJoining_54 : decode cX5_strongestByJoining 54 = .ok (.iaload, 1) := by decide +kernel
theorem dX5_strongestByJoining_55 : decode cX5_strongestByJoining 55 = .ok (.aload_n 0, 1) := by decide +kernel
theorem dX5_strongestByJoining_56 : decode cX5_strongestByJoining 56 = .ok (.getfield 9, 3) := by decide +kernel
theorem dX5_strongestByJoining_59 : decode cX5_strongestByJoining 59 = .ok (.iload_n 3, 1) := by decide +kernel
theorem dX5_strongestByJoining_60 : decode cX5_strongestByJoining 60 = .ok (.iaload, 1) := by decide +kernel
theorem dX5_strongestByJoining_61 : decode cX5_strongestByJoining 61 = .ok (.if_icmp .ne 6, 3) := by decide +kernel
theorem dX5_strongestByJoining_64 : decode cX5_strongestByJoining 64 = .ok (.iload 4, 2) := by decide +kernel
theorem dX5_strongestByJoining_66 : decode cX5_strongestByJoining 66 = .ok (.ireturn, 1) := by decide +kernel
theorem dX5_strongestByJoining_67 : decode cX5_strongestByJoining 67 = .ok (.iinc 4 (-1), 3) := by decide +kernel
theorem dX5_strongestByJoining_70 : decode cX5_strongestByJoining 70 = .ok (.goto (-33), 3) := by decide +kernel
theorem dX5_strongestByJoining_73 : decode cX5_strongestByJoining 73 = .ok (.bipush (-4), 2) := by decide +kernel
theorem dX5_strongestByJoining_75 : decode cX5_strongestByJoining 75 = .ok (.ireturn, 1) := by decide +kernel
theorem dX5_joinOver_0 : decode cX5_joinOver 0 = .ok (.iconst 0, 1) := by decide +kernel
theorem dX5_joinOver_1 : decode cX5_joinOver 1 = .ok (.istore_n 3, 1) := by decide +kernel
theorem dX5_joinOver_2 : decode cX5_joinOver 2 = .ok (.iload_n 3, 1) := by decide +kernel
theorem dX5_joinOver_3 : decode cX5_joinOver 3 = .ok (.bipush 28, 2) := by decide +kernel
theorem dX5_joinOver_5 : decode cX5_joinOver 5 = .ok (.if_icmp .ge 48, 3) := by decide +kernel
theorem dX5_joinOver_8 : decode cX5_joinOver 8 = .ok (.iload_n 3, 1) := by decide +kernel
theorem dX5_joinOver_9 : decode cX5_joinOver 9 = .ok (.invokestatic 22, 3) := by decide +kernel
theorem dX5_joinOver_12 : decode cX5_joinOver 12 = .ok (.ifCond .eq 35, 3) := by decide +kernel
theorem dX5_joinOver_15 : decode cX5_joinOver 15 = .ok (.aload_n 1, 1) := by decide +kernel
theorem dX5_joinOver_16 : decode cX5_joinOver 16 = .ok (.getfield 28, 3) := by decide +kernel
theorem dX5_joinOver_19 : decode cX5_joinOver 19 = .ok (.iload_n 3, 1) := by decide +kernel
theorem dX5_joinOver_20 : decode cX5_joinOver 20 = .ok (.iaload, 1) := by decide +kernel
theorem dX5_joinOver_21 : decode cX5_joinOver 21 = .ok (.iload_n 2, 1) := by decide +kernel
theorem dX5_joinOver_22 : decode cX5_joinOver 22 = .ok (.if_icmp .ne 25, 3) := by decide +kernel
theorem dX5_joinOver_25 : decode cX5_joinOver 25 = .ok (.aload_n 0, 1) := by decide +kernel
theorem dX5_joinOver_26 : decode cX5_joinOver 26 = .ok (.aload_n 0, 1) := by decide +kernel
theorem dX5_joinOver_27 : decode cX5_joinOver 27 = .ok (.getfield 9, 3) := by decide +kernel
theorem dX5_joinOver_30 : decode cX5_joinOver 30 = .ok (.iload_n 3, 1) := by decide +kernel
theorem dX5_joinOver_31 : decode cX5_joinOver 31 = .ok (.invokestatic 33, 3) := by decide +kernel
theorem dX5_joinOver_34 : decode cX5_joinOver 34 = .ok (.iaload, 1) := by decide +kernel
theorem dX5_joinOver_35 : decode cX5_joinOver 35 = .ok (.aload_n 0, 1) := by decide +kernel
theorem dX5_joinOver_36 : decode cX5_joinOver 36 = .ok (.getfield 9, 3) := by decide +kernel
theorem dX5_joinOver_39 : decode cX5_joinOver 39 = .ok (.iload_n 3, 1) := by decide +kernel
theorem dX5_joinOver_40 : decode cX5_joinOver 40 = .ok (.invokestatic 37, 3) := by decide +kernel
theorem dX5_joinOver_43 : decode cX5_joinOver 43 = .ok (.iaload, 1) := by decide +kernel
theorem dX5_joinOver_44 : decode cX5_joinOver 44 = .ok (.invokevirtual 40, 3) := by decide +kernel
theorem dX5_joinOver_47 : decode cX5_joinOver 47 = .ok (.iinc 3 1, 3) := by decide +kernel
theorem dX5_joinOver_50 : decode cX5_joinOver 50 = .ok (.goto (-48), 3) := by decide +kernel
theorem dX5_joinOver_53 : decode cX5_joinOver 53 = .ok (.return_, 1) := by decide +kernel
theorem dX5_rename_0 : decode cX5_rename 0 = .ok (.iconst 0, 1) := by decide +kernel
theorem dX5_rename_1 : decode cX5_rename 1 = .ok (.istore_n 3, 1) := by decide +kernel
theorem dX5_rename_2 : decode cX5_rename 2 = .ok (.iload_n 3, 1) := by decide +kernel
theorem dX5_rename_3 : decode cX5_rename 3 = .ok (.bipush 16, 2) := by decide +kernel
theorem dX5_rename_5 : decode cX5_rename 5 = .ok (.if_icmp .ge 26, 3) := by decide +kernel
theorem dX5_rename_8 : decode cX5_rename 8 = .ok (.aload_n 0, 1) := by decide +kernel
theorem dX5_rename_9 : decode cX5_rename 9 = .ok (.getfield 9, 3) := by decide +kernel
theorem dX5_rename_12 : decode cX5_rename 12 = .ok (.iload_n 3, 1) := by decide +kernel
theorem dX5_rename_13 : decode cX5_rename 13 = .ok (.iaload, 1) := by decide +kernel
theorem dX5_rename_14 : decode cX5_rename 14 = .ok (.iload_n 1, 1) := by decide +kernel
theorem dX5_rename_15 : decode cX5_rename 15 = .ok (.if_icmp .ne 10, 3) := by decide +kernel
theorem dX5_rename_18 : decode cX5_rename 18 = .ok (.aload_n 0, 1) := by decide +kernel
theorem dX5_rename_19 : decode cX5_rename 19 = .ok (.getfield 9, 3) := by decide +kernel
theorem dX5_rename_22 : decode cX5_rename 22 = .ok (.iload_n 3, 1) := by decide +kernel
theorem dX5_rename_23 : decode cX5_rename 23 = .ok (.iload_n 2, 1) := by decide +kernel
theorem dX5_rename_24 : decode cX5_rename 24 = .ok (.iastore, 1) := by decide +kernel
theorem dX5_rename_25 : decode cX5_rename 25 = .ok (.iinc 3 1, 3) := by decide +kernel
theorem dX5_rename_28 : decode cX5_rename 28 = .ok (.goto (-26), 3) := by decide +kernel
theorem dX5_rename_31 : decode cX5_rename 31 = .ok (.return_, 1) := by decide +kernel
theorem dX5_strongestBySpreading_0 : decode cX5_strongestBySpreading 0 = .ok (.aload_n 0, 1) := by decide +kernel
theorem dX5_strongestBySpreading_1 : decode cX5_strongestBySpreading 1 = .ok (.getfield 15, 3) := by decide +kernel
theorem dX5_strongestBySpreading_4 : decode cX5_strongestBySpreading 4 = .ok (.iconst 0, 1) := by decide +kernel
theorem dX5_strongestBySpreading_5 : decode cX5_strongestBySpreading 5 = .ok (.invokestatic 44, 3) := by decide +kernel
theorem dX5_strongestBySpreading_8 : decode cX5_strongestBySpreading 8 = .ok (.aload_n 0, 1) := by decide +kernel
theorem dX5_strongestBySpreading_9 : decode cX5_strongestBySpreading 9 = .ok (.getfield 15, 3) := by decide +kernel
theorem dX5_strongestBySpreading_12 : decode cX5_strongestBySpreading 12 = .ok (.iload_n 2, 1) := by decide +kernel
theorem dX5_strongestBySpreading_13 : decode cX5_strongestBySpreading 13 = .ok (.bipush 10, 2) := by decide +kernel
theorem dX5_strongestBySpreading_15 : decode cX5_strongestBySpreading 15 = .ok (.iastore, 1) := by decide +kernel
theorem dX5_strongestBySpreading_16 : decode cX5_strongestBySpreading 16 = .ok (.iconst 1, 1) := by decide +kernel
theorem dX5_strongestBySpreading_17 : decode cX5_strongestBySpreading 17 = .ok (.istore 4, 2) := by decide +kernel
theorem dX5_strongestBySpreading_19 : decode cX5_strongestBySpreading 19 = .ok (.iconst 0, 1) := by decide +kernel
theorem dX5_strongestBySpreading_20 : decode cX5_strongestBySpreading 20 = .ok (.istore 5, 2) := by decide +kernel
theorem dX5_strongestBySpreading_22 : decode cX5_strongestBySpreading 22 = .ok (.iload 5, 2) := by decide +kernel
theorem dX5_strongestBySpreading_24 : decode cX5_strongestBySpreading 24 = .ok (.bipush 16, 2) := by decide +kernel
theorem dX5_strongestBySpreading_26 : decode cX5_strongestBySpreading 26 = .ok (.if_icmp .ge 21, 3) := by decide +kernel
theorem dX5_strongestBySpreading_29 : decode cX5_strongestBySpreading 29 = .ok (.iload 4, 2) := by decide +kernel
theorem dX5_strongestBySpreading_31 : decode cX5_strongestBySpreading 31 = .ok (.ifCond .eq 16, 3) := by decide +kernel
theorem dX5_strongestBySpreading_34 : decode cX5_strongestBySpreading 34 = .ok (.aload_n 0, 1) := by decide +kernel
theorem dX5_strongestBySpreading_35 : decode cX5_strongestBySpreading 35 = .ok (.aload_n 1, 1) := by decide +kernel
theorem dX5_strongestBySpreading_36 : decode cX5_strongestBySpreading 36 = .ok (.invokevirtual 50, 3) := by decide +kernel
theorem dX5_strongestBySpreading_39 : decode cX5_strongestBySpreading 39 = .ok (.istore 4, 2) := by decide +kernel
theorem dX5_strongestBySpreading_41 : decode cX5_strongestBySpreading 41 = .ok (.iinc 5 1, 3) := by decide +kernel
theorem dX5_strongestBySpreading_44 : decode cX5_strongestBySpreading 44 = .ok (.goto (-22), 3) := by decide +kernel
theorem dX5_strongestBySpreading_47 : decode cX5_strongestBySpreading 47 = .ok (.aload_n 0, 1) := by decide +kernel
theorem dX5_strongestBySpreading_48 : decode cX5_strongestBySpreading 48 = .ok (.getfield 15, 3) := by decide +kernel
theorem dX5_strongestBySpreading_51 : decode cX5_strongestBySpreading 51 = .ok (.iload_n 3, 1) := by decide +kernel
theorem dX5_strongestBySpreading_52 : decode cX5_strongestBySpreading 52 = .ok (.iaload, 1) := by decide +kernel
theorem dX5_strongestBySpreading_53 : decode cX5_strongestBySpreading 53 = .ok (.ifCond .le 12, 3) := by decide +kernel
theorem dX5_strongestBySpreading_56 : decode cX5_strongestBySpreading 56 = .ok (.aload_n 0, 1) := by decide +kernel
theorem dX5_strongestBySpreading_57 : decode cX5_strongestBySpreading 57 = .ok (.getfield 15, 3) := by decide +kernel
theorem dX5_strongestBySpreading_60 : decode cX5_strongestBySpreading 60 = .ok (.iload_n 3, 1) := by decide +kernel
theorem dX5_strongestBySpreading_61 : decode cX5_strongestBySpreading 61 = .ok (.iaload, 1) := by decide +kernel
theorem dX5_strongestBySpreading_62 : decode cX5_strongestBySpreading 62 = .ok (.goto 5, 3) := by decide +kernel
theorem dX5_strongestBySpreading_65 : decode cX5_strongestBySpreading 65 = .ok (.bipush (-4), 2) := by decide +kernel
theorem dX5_strongestBySpreading_67 : decode cX5_strongestBySpreading 67 = .ok (.ireturn, 1) := by decide +kernel
theorem dX5_spread_0 : decode cX5_spread 0 = .ok (.iconst 0, 1) := by decide +kernel
theorem dX5_spread_1 : decode cX5_spread 1 = .ok (.istore_n 2, 1) := by decide +kernel
theorem dX5_spread_2 : decode cX5_spread 2 = .ok (.iconst 0, 1) := by decide +kernel
theorem dX5_spread_3 : decode cX5_spread 3 = .ok (.istore_n 3, 1) := by decide +kernel
theorem dX5_spread_4 : decode cX5_spread 4 = .ok (.iload_n 3, 1) := by decide +kernel
theorem dX5_spread_5 : decode cX5_spread 5 = .ok (.bipush 28, 2) := by decide +kernel
theorem dX5_spread_7 : decode cX5_spread 7 = .ok (.if_icmp .ge 96, 3) := by decide +kernel
theorem dX5_spread_10 : decode cX5_spread 10 = .ok (.iload_n 3, 1) := by decide +kernel
theorem dX5_spread_11 : decode cX5_spread 11 = .ok (.invokestatic 22, 3) := by decide +kernel
theorem dX5_spread_14 : decode cX5_spread 14 = .ok (.ifCond .eq 83, 3) := by decide +kernel
theorem dX5_spread_17 : decode cX5_spread 17 = .ok (.iload_n 3, 1) := by decide +kernel
theorem dX5_spread_18 : decode cX5_spread 18 = .ok (.invokestatic 37, 3) := by decide +kernel
theorem dX5_spread_21 : decode cX5_spread 21 = .ok (.istore 4, 2) := by decide +kernel
theorem dX5_spread_23 : decode cX5_spread 23 = .ok (.iload_n 3, 1) := by decide +kernel
theorem dX5_spread_24 : decode cX5_spread 24 = .ok (.invokestatic 33, 3) := by decide +kernel
theorem dX5_spread_27 : decode cX5_spread 27 = .ok (.istore 5, 2) := by decide +kernel
theorem dX5_spread_29 : decode cX5_spread 29 = .ok (.aload_n 0, 1) := by decide +kernel
theorem dX5_spread_30 : decode cX5_spread 30 = .ok (.iload 5, 2) := by decide +kernel
theorem dX5_spread_32 : decode cX5_spread 32 = .ok (.aload_n 0, 1) := by decide +kernel
theorem dX5_spread_33 : decode cX5_spread 33 = .ok (.getfield 15, 3) := by decide +kernel
theorem dX5_spread_36 : decode cX5_spread 36 = .ok (.iload 4, 2) := by decide +kernel
theorem dX5_spread_38 : decode cX5_spread 38 = .ok (.iaload, 1) := by decide +kernel
theorem dX5_spread_39 : decode cX5_spread 39 = .ok (.aload_n 1, 1) := by decide +kernel
theorem dX5_spread_40 : decode cX5_spread 40 = .ok (.getfield 28, 3) := by decide +kernel
theorem dX5_spread_43 : decode cX5_spread 43 = .ok (.iload_n 3, 1) := by decide +kernel
theorem dX5_spread_44 : decode cX5_spread 44 = .ok (.iaload, 1) := by decide +kernel
theorem dX5_spread_45 : decode cX5_spread 45 = .ok (.invokestatic 54, 3) := by decide +kernel
theorem dX5_spread_48 : decode cX5_spread 48 = .ok (.invokevirtual 60, 3) := by decide +kernel
theorem dX5_spread_51 : decode cX5_spread 51 = .ok (.istore 6, 2) := by decide +kernel
theorem dX5_spread_53 : decode cX5_spread 53 = .ok (.aload_n 0, 1) := by decide +kernel
theorem dX5_spread_54 : decode cX5_spread 54 = .ok (.iload 4, 2) := by decide +kernel
theorem dX5_spread_56 : decode cX5_spread 56 = .ok (.aload_n 0, 1) := by decide +kernel
theorem dX5_spread_57 : decode cX5_spread 57 = .ok (.getfield 15, 3) := by decide +kernel
theorem dX5_spread_60 : decode cX5_spread 60 = .ok (.iload 5, 2) := by decide +kernel
theorem dX5_spread_62 : decode cX5_spread 62 = .ok (.iaload, 1) := by decide +kernel
theorem dX5_spread_63 : decode cX5_spread 63 = .ok (.aload_n 1, 1) := by decide +kernel
theorem dX5_spread_64 : decode cX5_spread 64 = .ok (.getfield 28, 3) := by decide +kernel
theorem dX5_spread_67 : decode cX5_spread 67 = .ok (.iload_n 3, 1) := by decide +kernel
theorem dX5_spread_68 : decode cX5_spread 68 = .ok (.iaload, 1) := by decide +kernel
theorem dX5_spread_69 : decode cX5_spread 69 = .ok (.invokestatic 54, 3) := by decide +kernel
theorem dX5_spread_72 : decode cX5_spread 72 = .ok (.invokevirtual 60, 3) := by decide +kernel
theorem dX5_spread_75 : decode cX5_spread 75 = .ok (.istore 7, 2) := by decide +kernel
theorem dX5_spread_77 : decode cX5_spread 77 = .ok (.iload_n 2, 1) := by decide +kernel
theorem dX5_spread_78 : decode cX5_spread 78 = .ok (.ifCond .ne 13, 3) := by decide +kernel
theorem dX5_spread_81 : decode cX5_spread 81 = .ok (.iload 6, 2) := by decide +kernel
theorem dX5_spread_83 : decode cX5_spread 83 = .ok (.ifCond .ne 8, 3) := by decide +kernel
theorem dX5_spread_86 : decode cX5_spread 86 = .ok (.iload 7, 2) := by decide +kernel
theorem dX5_spread_88 : decode cX5_spread 88 = .ok (.ifCond .eq 7, 3) := by decide +kernel
theorem dX5_spread_91 : decode cX5_spread 91 = .ok (.iconst 1, 1) := by decide +kernel
theorem dX5_spread_92 : decode cX5_spread 92 = .ok (.goto 4, 3) := by decide +kernel
theorem dX5_spread_95 : decode cX5_spread 95 = .ok (.iconst 0, 1) := by decide +kernel
theorem dX5_spread_96 : decode cX5_spread 96 = .ok (.istore_n 2, 1) := by decide +kernel
theorem dX5_spread_97 : decode cX5_spread 97 = .ok (.iinc 3 1, 3) := by decide +kernel
theorem dX5_spread_100 : decode cX5_spread 100 = .ok (.goto (-96), 3) := by decide +kernel
theorem dX5_spread_103 : decode cX5_spread 103 = .ok (.iload_n 2, 1) := by decide +kernel
theorem dX5_spread_104 : decode cX5_spread 104 = .ok (.ireturn, 1) := by decide +kernel
theorem dX5_raise_0 : decode cX5_raise 0 = .ok (.iload_n 2, 1) := by decide +kernel
theorem dX5_raise_1 : decode cX5_raise 1 = .ok (.aload_n 0, 1) := by decide +kernel
theorem dX5_raise_2 : decode cX5_raise 2 = .ok (.getfield 15, 3) := by decide +kernel
theorem dX5_raise_5 : decode cX5_raise 5 = .ok (.iload_n 1, 1) := by decide +kernel
theorem dX5_raise_6 : decode cX5_raise 6 = .ok (.iaload, 1) := by decide +kernel
theorem dX5_raise_7 : decode cX5_raise 7 = .ok (.if_icmp .gt 5, 3) := by decide +kernel
theorem dX5_raise_10 : decode cX5_raise 10 = .ok (.iconst 0, 1) := by decide +kernel
theorem dX5_raise_11 : decode cX5_raise 11 = .ok (.ireturn, 1) := by decide +kernel
theorem dX5_raise_12 : decode cX5_raise 12 = .ok (.aload_n 0, 1) := by decide +kernel
theorem dX5_raise_13 : decode cX5_raise 13 = .ok (.getfield 15, 3) := by decide +kernel
theorem dX5_raise_16 : decode cX5_raise 16 = .ok (.iload_n 1, 1) := by decide +kernel
theorem dX5_raise_17 : decode cX5_raise 17 = .ok (.iload_n 2, 1) := by decide +kernel
theorem dX5_raise_18 : decode cX5_raise 18 = .ok (.iastore, 1) := by decide +kernel
theorem dX5_raise_19 : decode cX5_raise 19 = .ok (.iconst 1, 1) := by decide +kernel
theorem dX5_raise_20 : decode cX5_raise 20 = .ok (.ireturn, 1) := by decide +kernel
theorem dX5_roofsFrom_0 : decode cX5_roofsFrom 0 = .ok (.iconst 1, 1) := by decide +kernel
theorem dX5_roofsFrom_1 : decode cX5_roofsFrom 1 = .ok (.iload_n 2, 1) := by decide +kernel
theorem dX5_roofsFrom_2 : decode cX5_roofsFrom 2 = .ok (.ishl, 1) := by decide +kernel
theorem dX5_roofsFrom_3 : decode cX5_roofsFrom 3 = .ok (.istore_n 3, 1) := by decide +kernel
theorem dX5_roofsFrom_4 : decode cX5_roofsFrom 4 = .ok (.iconst 0, 1) := by decide +kernel
theorem dX5_roofsFrom_5 : decode cX5_roofsFrom 5 = .ok (.istore 4, 2) := by decide +kernel
theorem dX5_roofsFrom_7 : decode cX5_roofsFrom 7 = .ok (.iload 4, 2) := by decide +kernel
theorem dX5_roofsFrom_9 : decode cX5_roofsFrom 9 = .ok (.bipush 16, 2) := by decide +kernel
theorem dX5_roofsFrom_11 : decode cX5_roofsFrom 11 = .ok (.if_icmp .ge 53, 3) := by decide +kernel
theorem dX5_roofsFrom_14 : decode cX5_roofsFrom 14 = .ok (.iconst 0, 1) := by decide +kernel
theorem dX5_roofsFrom_15 : decode cX5_roofsFrom 15 = .ok (.istore 5, 2) := by decide +kernel
theorem dX5_roofsFrom_17 : decode cX5_roofsFrom 17 = .ok (.iload 5, 2) := by decide +kernel
theorem dX5_roofsFrom_19 : decode cX5_roofsFrom 19 = .ok (.bipush 28, 2) := by decide +kernel
theorem dX5_roofsFrom_21 : decode cX5_roofsFrom 21 = .ok (.if_icmp .ge 37, 3) := by decide +kernel
theorem dX5_roofsFrom_24 : decode cX5_roofsFrom 24 = .ok (.iload 5, 2) := by decide +kernel
theorem dX5_roofsFrom_26 : decode cX5_roofsFrom 26 = .ok (.invokestatic 64, 3) := by decide +kernel
theorem dX5_roofsFrom_29 : decode cX5_roofsFrom 29 = .ok (.istore 6, 2) := by decide +kernel
theorem dX5_roofsFrom_31 : decode cX5_roofsFrom 31 = .ok (.aload_n 1, 1) := by decide +kernel
theorem dX5_roofsFrom_32 : decode cX5_roofsFrom 32 = .ok (.iload 5, 2) := by decide +kernel
theorem dX5_roofsFrom_34 : decode cX5_roofsFrom 34 = .ok (.invokevirtual 67, 3) := by decide +kernel
theorem dX5_roofsFrom_37 : decode cX5_roofsFrom 37 = .ok (.ifCond .eq 15, 3) := by decide +kernel
theorem dX5_roofsFrom_40 : decode cX5_roofsFrom 40 = .ok (.iload_n 3, 1) := by decide +kernel
theorem dX5_roofsFrom_41 : decode cX5_roofsFrom 41 = .ok (.iload 6, 2) := by decide +kernel
theorem dX5_roofsFrom_43 : decode cX5_roofsFrom 43 = .ok (.iand, 1) := by decide +kernel
theorem dX5_roofsFrom_44 : decode cX5_roofsFrom 44 = .ok (.ifCond .eq 8, 3) := by decide +kernel
theorem dX5_roofsFrom_47 : decode cX5_roofsFrom 47 = .ok (.iload_n 3, 1) := by decide +kernel
theorem dX5_roofsFrom_48 : decode cX5_roofsFrom 48 = .ok (.iload 6, 2) := by decide +kernel
theorem dX5_roofsFrom_50 : decode cX5_roofsFrom 50 = .ok (.ior, 1) := by decide +kernel
theorem dX5_roofsFrom_51 : decode cX5_roofsFrom 51 = .ok (.istore_n 3, 1) := by decide +kernel
theorem dX5_roofsFrom_52 : decode cX5_roofsFrom 52 = .ok (.iinc 5 1, 3) := by decide +kernel
theorem dX5_roofsFrom_55 : decode cX5_roofsFrom 55 = .ok (.goto (-38), 3) := by decide +kernel
theorem dX5_roofsFrom_58 : decode cX5_roofsFrom 58 = .ok (.iinc 4 1, 3) := by decide +kernel
theorem dX5_roofsFrom_61 : decode cX5_roofsFrom 61 = .ok (.goto (-54), 3) := by decide +kernel
theorem dX5_roofsFrom_64 : decode cX5_roofsFrom 64 = .ok (.iload_n 3, 1) := by decide +kernel
theorem dX5_roofsFrom_65 : decode cX5_roofsFrom 65 = .ok (.ireturn, 1) := by decide +kernel
theorem dX5_fewestWalks_0 : decode cX5_fewestWalks 0 = .ok (.iconst 1, 1) := by decide +kernel
theorem dX5_fewestWalks_1 : decode cX5_fewestWalks 1 = .ok (.aload_n 1, 1) := by decide +kernel
theorem dX5_fewestWalks_2 : decode cX5_fewestWalks 2 = .ok (.getfield 70, 3) := by decide +kernel
theorem dX5_fewestWalks_5 : decode cX5_fewestWalks 5 = .ok (.iload_n 2, 1) := by decide +kernel
theorem dX5_fewestWalks_6 : decode cX5_fewestWalks 6 = .ok (.iaload, 1) := by decide +kernel
theorem dX5_fewestWalks_7 : decode cX5_fewestWalks 7 = .ok (.ishl, 1) := by decide +kernel
theorem dX5_fewestWalks_8 : decode cX5_fewestWalks 8 = .ok (.istore 4, 2) := by decide +kernel
theorem dX5_fewestWalks_10 : decode cX5_fewestWalks 10 = .ok (.iconst 0, 1) := by decide +kernel
theorem dX5_fewestWalks_11 : decode cX5_fewestWalks 11 = .ok (.istore 5, 2) := by decide +kernel
theorem dX5_fewestWalks_13 : decode cX5_fewestWalks 13 = .ok (.iload 5, 2) := by decide +kernel
theorem dX5_fewestWalks_15 : decode cX5_fewestWalks 15 = .ok (.bipush 16, 2) := by decide +kernel
theorem dX5_fewestWalks_17 : decode cX5_fewestWalks 17 = .ok (.if_icmp .ge 31, 3) := by decide +kernel
theorem dX5_fewestWalks_20 : decode cX5_fewestWalks 20 = .ok (.iload 4, 2) := by decide +kernel
theorem dX5_fewestWalks_22 : decode cX5_fewestWalks 22 = .ok (.iload_n 3, 1) := by decide +kernel
theorem dX5_fewestWalks_23 : decode cX5_fewestWalks 23 = .ok (.invokestatic 73, 3) := by decide +kernel
theorem dX5_fewestWalks_26 : decode cX5_fewestWalks 26 = .ok (.ifCond .eq 6, 3) := by decide +kernel
theorem dX5_fewestWalks_29 : decode cX5_fewestWalks 29 = .ok (.iload 5, 2) := by decide +kernel
theorem dX5_fewestWalks_31 : decode cX5_fewestWalks 31 = .ok (.ireturn, 1) := by decide +kernel
theorem dX5_fewestWalks_32 : decode cX5_fewestWalks 32 = .ok (.aload_n 0, 1) := by decide +kernel
theorem dX5_fewestWalks_33 : decode cX5_fewestWalks 33 = .ok (.aload_n 1, 1) := by decide +kernel
theorem dX5_fewestWalks_34 : decode cX5_fewestWalks 34 = .ok (.iload_n 2, 1) := by decide +kernel
theorem dX5_fewestWalks_35 : decode cX5_fewestWalks 35 = .ok (.iload 4, 2) := by decide +kernel
theorem dX5_fewestWalks_37 : decode cX5_fewestWalks 37 = .ok (.invokevirtual 76, 3) := by decide +kernel
theorem dX5_fewestWalks_40 : decode cX5_fewestWalks 40 = .ok (.istore 4, 2) := by decide +kernel
theorem dX5_fewestWalks_42 : decode cX5_fewestWalks 42 = .ok (.iinc 5 1, 3) := by decide +kernel
theorem dX5_fewestWalks_45 : decode cX5_fewestWalks 45 = .ok (.goto (-32), 3) := by decide +kernel
theorem dX5_fewestWalks_48 : decode cX5_fewestWalks 48 = .ok (.bipush (-4), 2) := by decide +kernel
theorem dX5_fewestWalks_50 : decode cX5_fewestWalks 50 = .ok (.ireturn, 1) := by decide +kernel
theorem dX5_oneWalkFurther_0 : decode cX5_oneWalkFurther 0 = .ok (.iload_n 3, 1) := by decide +kernel
theorem dX5_oneWalkFurther_1 : decode cX5_oneWalkFurther 1 = .ok (.istore 4, 2) := by decide +kernel
theorem dX5_oneWalkFurther_3 : decode cX5_oneWalkFurther 3 = .ok (.iconst 0, 1) := by decide +kernel
theorem dX5_oneWalkFurther_4 : decode cX5_oneWalkFurther 4 = .ok (.istore 5, 2) := by decide +kernel
theorem dX5_oneWalkFurther_6 : decode cX5_oneWalkFurther 6 = .ok (.iload 5, 2) := by decide +kernel
theorem dX5_oneWalkFurther_8 : decode cX5_oneWalkFurther 8 = .ok (.bipush 28, 2) := by decide +kernel
theorem dX5_oneWalkFurther_10 : decode cX5_oneWalkFurther 10 = .ok (.if_icmp .ge 83, 3) := by decide +kernel
theorem dX5_oneWalkFurther_13 : decode cX5_oneWalkFurther 13 = .ok (.iload 5, 2) := by decide +kernel
theorem dX5_oneWalkFurther_15 : decode cX5_oneWalkFurther 15 = .ok (.invokestatic 37, 3) := by decide +kernel
theorem dX5_oneWalkFurther_18 : decode cX5_oneWalkFurther 18 = .ok (.istore 6, 2) := by decide +kernel
theorem dX5_oneWalkFurther_20 : decode cX5_oneWalkFurther 20 = .ok (.iload 5, 2) := by decide +kernel
theorem dX5_oneWalkFurther_22 : decode cX5_oneWalkFurther 22 = .ok (.invokestatic 33, 3) := by decide +kernel
theorem dX5_oneWalkFurther_25 : decode cX5_oneWalkFurther 25 = .ok (.istore 7, 2) := by decide +kernel
theorem dX5_oneWalkFurther_27 : decode cX5_oneWalkFurther 27 = .ok (.iload_n 3, 1) := by decide +kernel
theorem dX5_oneWalkFurther_28 : decode cX5_oneWalkFurther 28 = .ok (.iload 6, 2) := by decide +kernel
theorem dX5_oneWalkFurther_30 : decode cX5_oneWalkFurther 30 = .ok (.invokestatic 73, 3) := by decide +kernel
theorem dX5_oneWalkFurther_33 : decode cX5_oneWalkFurther 33 = .ok (.ifCond .eq 24, 3) := by decide +kernel
theorem dX5_oneWalkFurther_36 : decode cX5_oneWalkFurther 36 = .ok (.aload_n 1, 1) := by decide +kernel
theorem dX5_oneWalkFurther_37 : decode cX5_oneWalkFurther 37 = .ok (.iload_n 2, 1) := by decide +kernel
theorem dX5_oneWalkFurther_38 : decode cX5_oneWalkFurther 38 = .ok (.iload 5, 2) := by decide +kernel
theorem dX5_oneWalkFurther_40 : decode cX5_oneWalkFurther 40 = .ok (.iload 7, 2) := by decide +kernel
theorem dX5_oneWalkFurther_42 : decode cX5_oneWalkFurther 42 = .ok (.invokevirtual 80, 3) := by decide +kernel
theorem dX5_oneWalkFurther_45 : decode cX5_oneWalkFurther 45 = .ok (.ifCond .ne 12, 3) := by decide +kernel
theorem dX5_oneWalkFurther_48 : decode cX5_oneWalkFurther 48 = .ok (.iload 4, 2) := by decide +kernel
theorem dX5_oneWalkFurther_50 : decode cX5_oneWalkFurther 50 = .ok (.iconst 1, 1) := by decide +kernel
theorem dX5_oneWalkFurther_51 : decode cX5_oneWalkFurther 51 = .ok (.iload 7, 2) := by decide +kernel
theorem dX5_oneWalkFurther_53 : decode cX5_oneWalkFurther 53 = .ok (.ishl, 1) := by decide +kernel
theorem dX5_oneWalkFurther_54 : decode cX5_oneWalkFurther 54 = .ok (.ior, 1) := by decide +kernel
theorem dX5_oneWalkFurther_55 : decode cX5_oneWalkFurther 55 = .ok (.istore 4, 2) := by decide +kernel
theorem dX5_oneWalkFurther_57 : decode cX5_oneWalkFurther 57 = .ok (.iload_n 3, 1) := by decide +kernel
theorem dX5_oneWalkFurther_58 : decode cX5_oneWalkFurther 58 = .ok (.iload 7, 2) := by decide +kernel
theorem dX5_oneWalkFurther_60 : decode cX5_oneWalkFurther 60 = .ok (.invokestatic 73, 3) := by decide +kernel
theorem dX5_oneWalkFurther_63 : decode cX5_oneWalkFurther 63 = .ok (.ifCond .eq 24, 3) := by decide +kernel
theorem dX5_oneWalkFurther_66 : decode cX5_oneWalkFurther 66 = .ok (.aload_n 1, 1) := by decide +kernel
theorem dX5_oneWalkFurther_67 : decode cX5_oneWalkFurther 67 = .ok (.iload_n 2, 1) := by decide +kernel
theorem dX5_oneWalkFurther_68 : decode cX5_oneWalkFurther 68 = .ok (.iload 5, 2) := by decide +kernel
theorem dX5_oneWalkFurther_70 : decode cX5_oneWalkFurther 70 = .ok (.iload 6, 2) := by decide +kernel
theorem dX5_oneWalkFurther_72 : decode cX5_oneWalkFurther 72 = .ok (.invokevirtual 80, 3) := by decide +kernel
theorem dX5_oneWalkFurther_75 : decode cX5_oneWalkFurther 75 = .ok (.ifCond .ne 12, 3) := by decide +kernel
theorem dX5_oneWalkFurther_78 : decode cX5_oneWalkFurther 78 = .ok (.iload 4, 2) := by decide +kernel
theorem dX5_oneWalkFurther_80 : decode cX5_oneWalkFurther 80 = .ok (.iconst 1, 1) := by decide +kernel
theorem dX5_oneWalkFurther_81 : decode cX5_oneWalkFurther 81 = .ok (.iload 6, 2) := by decide +kernel
theorem dX5_oneWalkFurther_83 : decode cX5_oneWalkFurther 83 = .ok (.ishl, 1) := by decide +kernel
theorem dX5_oneWalkFurther_84 : decode cX5_oneWalkFurther 84 = .ok (.ior, 1) := by decide +kernel
theorem dX5_oneWalkFurther_85 : decode cX5_oneWalkFurther 85 = .ok (.istore 4, 2) := by decide +kernel
theorem dX5_oneWalkFurther_87 : decode cX5_oneWalkFurther 87 = .ok (.iinc 5 1, 3) := by decide +kernel
theorem dX5_oneWalkFurther_90 : decode cX5_oneWalkFurther 90 = .ok (.goto (-84), 3) := by decide +kernel
theorem dX5_oneWalkFurther_93 : decode cX5_oneWalkFurther 93 = .ok (.iload 4, 2) := by decide +kernel
theorem dX5_oneWalkFurther_95 : decode cX5_oneWalkFurther 95 = .ok (.ireturn, 1) := by decide +kernel
end
section
theorem dX6_init_0 : decode cX6_init 0 = .ok (.aload_n 0, 1) := by decide +kernel
theorem dX6_init_1 : decode cX6_init 1 = .ok (.invokespecial 1, 3) := by decide +kernel
theorem dX6_init_4 : decode cX6_init 4 = .ok (.aload_n 0, 1) := by decide +kernel
theorem dX6_init_5 : decode cX6_init 5 = .ok (.new 7, 3) := by decide +kernel
theorem dX6_init_8 : decode cX6_init 8 = .ok (.dup, 1) := by decide +kernel
theorem dX6_init_9 : decode cX6_init 9 = .ok (.invokespecial 9, 3) := by decide +kernel
theorem dX6_init_12 : decode cX6_init 12 = .ok (.putfield 10, 3) := by decide +kernel
theorem dX6_init_15 : decode cX6_init 15 = .ok (.aload_n 0, 1) := by decide +kernel
theorem dX6_init_16 : decode cX6_init 16 = .ok (.new 7, 3) := by decide +kernel
theorem dX6_init_19 : decode cX6_init 19 = .ok (.dup, 1) := by decide +kernel
theorem dX6_init_20 : decode cX6_init 20 = .ok (.invokespecial 9, 3) := by decide +kernel
theorem dX6_init_23 : decode cX6_init 23 = .ok (.putfield 16, 3) := by decide +kernel
theorem dX6_init_26 : decode cX6_init 26 = .ok (.aload_n 0, 1) := by decide +kernel
theorem dX6_init_27 : decode cX6_init 27 = .ok (.new 7, 3) := by decide +kernel
theorem dX6_init_30 : decode cX6_init 30 = .ok (.dup, 1) := by decide +kernel
theorem dX6_init_31 : decode cX6_init 31 = .ok (.invokespecial 9, 3) := by decide +kernel
theorem dX6_init_34 : decode cX6_init 34 = .ok (.putfield 19, 3) := by decide +kernel
theorem dX6_init_37 : decode cX6_init 37 = .ok (.aload_n 0, 1) := by decide +kernel
theorem dX6_init_38 : decode cX6_init 38 = .ok (.new 22, 3) := by decide +kernel
theorem dX6_init_41 : decode cX6_init 41 = .ok (.dup, 1) := by decide +kernel
theorem dX6_init_42 : decode cX6_init 42 = .ok (.invokespecial 24, 3) := by decide +kernel
theorem dX6_init_45 : decode cX6_init 45 = .ok (.putfield 25, 3) := by decide +kernel
theorem dX6_init_48 : decode cX6_init 48 = .ok (.aload_n 0, 1) := by decide +kernel
theorem dX6_init_49 : decode cX6_init 49 = .ok (.new 29, 3) := by decide +kernel
theorem dX6_init_52 : decode cX6_init 52 = .ok (.dup, 1) := by decide +kernel
theorem dX6_init_53 : decode cX6_init 53 = .ok (.invokespecial 31, 3) := by decide +kernel
theorem dX6_init_56 : decode cX6_init 56 = .ok (.putfield 32, 3) := by decide +kernel
theorem dX6_init_59 : decode cX6_init 59 = .ok (.aload_n 0, 1) := by decide +kernel
theorem dX6_init_60 : decode cX6_init 60 = .ok (.new 36, 3) := by decide +kernel
theorem dX6_init_63 : decode cX6_init 63 = .ok (.dup, 1) := by decide +kernel
theorem dX6_init_64 : decode cX6_init 64 = .ok (.invokespecial 38, 3) := by decide +kernel
theorem dX6_init_67 : decode cX6_init 67 = .ok (.putfield 39, 3) := by decide +kernel
theorem dX6_init_70 : decode cX6_init 70 = .ok (.aload_n 0, 1) := by decide +kernel
theorem dX6_init_71 : decode cX6_init 71 = .ok (.new 43, 3) := by decide +kernel
theorem dX6_init_74 : decode cX6_init 74 = .ok (.dup, 1) := by decide +kernel
theorem dX6_init_75 : decode cX6_init 75 = .ok (.aload_n 0, 1) := by decide +kernel
theorem dX6_init_76 : decode cX6_init 76 = .ok (.getfield 39, 3) := by decide +kernel
theorem dX6_init_79 : decode cX6_init 79 = .ok (.invokespecial 45, 3) := by decide +kernel
theorem dX6_init_82 : decode cX6_init 82 = .ok (.putfield 48, 3) := by decide +kernel
theorem dX6_init_85 : decode cX6_init 85 = .ok (.return_, 1) := by decide +kernel
theorem dX6_bears_0 : decode cX6_bears 0 = .ok (.iload_n 1, 1) := by decide +kernel
theorem dX6_bears_1 : decode cX6_bears 1 = .ok (.invokestatic 52, 3) := by decide +kernel
theorem dX6_bears_4 : decode cX6_bears 4 = .ok (.ifCond .eq 13, 3) := by decide +kernel
theorem dX6_bears_7 : decode cX6_bears 7 = .ok (.iload_n 2, 1) := by decide +kernel
theorem dX6_bears_8 : decode cX6_bears 8 = .ok (.iconst 0, 1) := by decide +kernel
theorem dX6_bears_9 : decode cX6_bears 9 = .ok (.bipush 9, 2) := by decide +kernel
theorem dX6_bears_11 : decode cX6_bears 11 = .ok (.invokestatic 58, 3) := by decide +kernel
theorem dX6_bears_14 : decode cX6_bears 14 = .ok (.ifCond .ne 5, 3) := by decide +kernel
theorem dX6_bears_17 : decode cX6_bears 17 = .ok (.iconst (-1), 1) := by decide +kernel
theorem dX6_bears_18 : decode cX6_bears 18 = .ok (.ireturn, 1) := by decide +kernel
theorem dX6_bears_19 : decode cX6_bears 19 = .ok (.aload_n 0, 1) := by decide +kernel
theorem dX6_bears_20 : decode cX6_bears 20 = .ok (.getfield 25, 3) := by decide +kernel
theorem dX6_bears_23 : decode cX6_bears 23 = .ok (.aload_n 0, 1) := by decide +kernel
theorem dX6_bears_24 : decode cX6_bears 24 = .ok (.getfield 10, 3) := by decide +kernel
theorem dX6_bears_27 : decode cX6_bears 27 = .ok (.invokevirtual 62, 3) := by decide +kernel
theorem dX6_bears_30 : decode cX6_bears 30 = .ok (.aload_n 0, 1) := by decide +kernel
theorem dX6_bears_31 : decode cX6_bears 31 = .ok (.getfield 10, 3) := by decide +kernel
theorem dX6_bears_34 : decode cX6_bears 34 = .ok (.getfield 66, 3) := by decide +kernel
theorem dX6_bears_37 : decode cX6_bears 37 = .ok (.iload_n 1, 1) := by decide +kernel
theorem dX6_bears_38 : decode cX6_bears 38 = .ok (.iaload, 1) := by decide +kernel
theorem dX6_bears_39 : decode cX6_bears 39 = .ok (.istore_n 3, 1) := by decide +kernel
theorem dX6_bears_40 : decode cX6_bears 40 = .ok (.aload_n 0, 1) := by decide +kernel
theorem dX6_bears_41 : decode cX6_bears 41 = .ok (.getfield 10, 3) := by decide +kernel
theorem dX6_bears_44 : decode cX6_bears 44 = .ok (.iload_n 1, 1) := by decide +kernel
theorem dX6_bears_45 : decode cX6_bears 45 = .ok (.iload_n 2, 1) := by decide +kernel
theorem dX6_bears_46 : decode cX6_bears 46 = .ok (.invokevirtual 70, 3) := by decide +kernel
theorem dX6_bears_49 : decode cX6_bears 49 = .ok (.iload_n 3, 1) := by decide +kernel
theorem dX6_bears_50 : decode cX6_bears 50 = .ok (.ireturn, 1) := by decide +kernel
theorem dX6_wind_0 : decode cX6_wind 0 = .ok (.iload_n 1, 1) := by decide +kernel
theorem dX6_wind_1 : decode cX6_wind 1 = .ok (.iconst 0, 1) := by decide +kernel
theorem dX6_wind_2 : decode cX6_wind 2 = .ok (.iconst 3, 1) := by decide +kernel
theorem dX6_wind_3 : decode cX6_wind 3 = .ok (.invokestatic 58, 3) := by decide +kernel
theorem dX6_wind_6 : decode cX6_wind 6 = .ok (.ifCond .ne 5, 3) := by decide +kernel
theorem dX6_wind_9 : decode cX6_wind 9 = .ok (.iconst (-1), 1) := by decide +kernel
theorem dX6_wind_10 : decode cX6_wind 10 = .ok (.ireturn, 1) := by decide +kernel
theorem dX6_wind_11 : decode cX6_wind 11 = .ok (.aload_n 0, 1) := by decide +kernel
theorem dX6_wind_12 : decode cX6_wind 12 = .ok (.getfield 25, 3) := by decide +kernel
theorem dX6_wind_15 : decode cX6_wind 15 = .ok (.aload_n 0, 1) := by decide +kernel
theorem dX6_wind_16 : decode cX6_wind 16 = .ok (.getfield 10, 3) := by decide +kernel
theorem dX6_wind_19 : decode cX6_wind 19 = .ok (.invokevirtual 62, 3) := by decide +kernel
theorem dX6_wind_22 : decode cX6_wind 22 = .ok (.aload_n 0, 1) := by decide +kernel
theorem dX6_wind_23 : decode cX6_wind 23 = .ok (.getfield 10, 3) := by decide +kernel
theorem dX6_wind_26 : decode cX6_wind 26 = .ok (.getfield 74, 3) := by decide +kernel
theorem dX6_wind_29 : decode cX6_wind 29 = .ok (.istore_n 2, 1) := by decide +kernel
theorem dX6_wind_30 : decode cX6_wind 30 = .ok (.aload_n 0, 1) := by decide +kernel
theorem dX6_wind_31 : decode cX6_wind 31 = .ok (.getfield 10, 3) := by decide +kernel
theorem dX6_wind_34 : decode cX6_wind 34 = .ok (.iload_n 1, 1) := by decide +kernel
theorem dX6_wind_35 : decode cX6_wind 35 = .ok (.putfield 74, 3) := by decide +kernel
theorem dX6_wind_38 : decode cX6_wind 38 = .ok (.iload_n 2, 1) := by decide +kernel
theorem dX6_wind_39 : decode cX6_wind 39 = .ok (.ireturn, 1) := by decide +kernel
theorem dX6_chimney_0 : decode cX6_chimney 0 = .ok (.iload_n 1, 1) := by decide +kernel
theorem dX6_chimney_1 : decode cX6_chimney 1 = .ok (.invokestatic 78, 3) := by decide +kernel
theorem dX6_chimney_4 : decode cX6_chimney 4 = .ok (.ifCond .ne 5, 3) := by decide +kernel
theorem dX6_chimney_7 : decode cX6_chimney 7 = .ok (.iconst (-1), 1) := by decide +kernel
theorem dX6_chimney_8 : decode cX6_chimney 8 = .ok (.ireturn, 1) := by decide +kernel
theorem dX6_chimney_9 : decode cX6_chimney 9 = .ok (.aload_n 0, 1) := by decide +kernel
theorem dX6_chimney_10 : decode cX6_chimney 10 = .ok (.getfield 25, 3) := by decide +kernel
theorem dX6_chimney_13 : decode cX6_chimney 13 = .ok (.aload_n 0, 1) := by decide +kernel
theorem dX6_chimney_14 : decode cX6_chimney 14 = .ok (.getfield 10, 3) := by decide +kernel
theorem dX6_chimney_17 : decode cX6_chimney 17 = .ok (.invokevirtual 62, 3) := by decide +kernel
theorem dX6_chimney_20 : decode cX6_chimney 20 = .ok (.aload_n 0, 1) := by decide +kernel
theorem dX6_chimney_21 : decode cX6_chimney 21 = .ok (.getfield 10, 3) := by decide +kernel
theorem dX6_chimney_24 : decode cX6_chimney 24 = .ok (.iload_n 1, 1) := by decide +kernel
theorem dX6_chimney_25 : decode cX6_chimney 25 = .ok (.invokevirtual 81, 3) := by decide +kernel
theorem dX6_chimney_28 : decode cX6_chimney 28 = .ok (.aload_n 0, 1) := by decide +kernel
theorem dX6_chimney_29 : decode cX6_chimney 29 = .ok (.getfield 10, 3) := by decide +kernel
theorem dX6_chimney_32 : decode cX6_chimney 32 = .ok (.aload_n 0, 1) := by decide +kernel
theorem dX6_chimney_33 : decode cX6_chimney 33 = .ok (.getfield 10, 3) := by decide +kernel
theorem dX6_chimney_36 : decode cX6_chimney 36 = .ok (.getfield 74, 3) := by decide +kernel
theorem dX6_chimney_39 : decode cX6_chimney 39 = .ok (.invokevirtual 85, 3) := by decide +kernel
theorem dX6_chimney_42 : decode cX6_chimney 42 = .ok (.invokestatic 89, 3) := by decide +kernel
theorem dX6_chimney_45 : decode cX6_chimney 45 = .ok (.ireturn, 1) := by decide +kernel
theorem dX6_coop_0 : decode cX6_coop 0 = .ok (.iload_n 1, 1) := by decide +kernel
theorem dX6_coop_1 : decode cX6_coop 1 = .ok (.invokestatic 78, 3) := by decide +kernel
theorem dX6_coop_4 : decode cX6_coop 4 = .ok (.ifCond .ne 5, 3) := by decide +kernel
theorem dX6_coop_7 : decode cX6_coop 7 = .ok (.iconst (-1), 1) := by decide +kernel
theorem dX6_coop_8 : decode cX6_coop 8 = .ok (.ireturn, 1) := by decide +kernel
theorem dX6_coop_9 : decode cX6_coop 9 = .ok (.aload_n 0, 1) := by decide +kernel
theorem dX6_coop_10 : decode cX6_coop 10 = .ok (.getfield 25, 3) := by decide +kernel
theorem dX6_coop_13 : decode cX6_coop 13 = .ok (.aload_n 0, 1) := by decide +kernel
theorem dX6_coop_14 : decode cX6_coop 14 = .ok (.getfield 10, 3) := by decide +kernel
theorem dX6_coop_17 : decode cX6_coop 17 = .ok (.invokevirtual 62, 3) := by decide +kernel
theorem dX6_coop_20 : decode cX6_coop 20 = .ok (.aload_n 0, 1) := by decide +kernel
theorem dX6_coop_21 : decode cX6_coop 21 = .ok (.getfield 10, 3) := by decide +kernel
theorem dX6_coop_24 : decode cX6_coop 24 = .ok (.dup, 1) := by decide +kernel
theorem dX6_coop_25 : decode cX6_coop 25 = .ok (.getfield 94, 3) := by decide +kernel
theorem dX6_coop_28 : decode cX6_coop 28 = .ok (.iconst 1, 1) := by decide +kernel
theorem dX6_coop_29 : decode cX6_coop 29 = .ok (.iload_n 1, 1) := by decide +kernel
theorem dX6_coop_30 : decode cX6_coop 30 = .ok (.ishl, 1) := by decide +kernel
theorem dX6_coop_31 : decode cX6_coop 31 = .ok (.ixor, 1) := by decide +kernel
theorem dX6_coop_32 : decode cX6_coop 32 = .ok (.putfield 94, 3) := by decide +kernel
theorem dX6_coop_35 : decode cX6_coop 35 = .ok (.aload_n 0, 1) := by decide +kernel
theorem dX6_coop_36 : decode cX6_coop 36 = .ok (.getfield 10, 3) := by decide +kernel
theorem dX6_coop_39 : decode cX6_coop 39 = .ok (.getfield 94, 3) := by decide +kernel
theorem dX6_coop_42 : decode cX6_coop 42 = .ok (.invokestatic 89, 3) := by decide +kernel
theorem dX6_coop_45 : decode cX6_coop 45 = .ok (.ireturn, 1) := by decide +kernel
theorem dX6_owner_0 : decode cX6_owner 0 = .ok (.iload_n 1, 1) := by decide +kernel
theorem dX6_owner_1 : decode cX6_owner 1 = .ok (.invokestatic 97, 3) := by decide +kernel
theorem dX6_owner_4 : decode cX6_owner 4 = .ok (.ifCond .eq 23, 3) := by decide +kernel
theorem dX6_owner_7 : decode cX6_owner 7 = .ok (.iload_n 2, 1) := by decide +kernel
theorem dX6_owner_8 : decode cX6_owner 8 = .ok (.iconst 1, 1) := by decide +kernel
theorem dX6_owner_9 : decode cX6_owner 9 = .ok (.bipush 9, 2) := by decide +kernel
theorem dX6_owner_11 : decode cX6_owner 11 = .ok (.invokestatic 58, 3) := by decide +kernel
theorem dX6_owner_14 : decode cX6_owner 14 = .ok (.ifCond .eq 13, 3) := by decide +kernel
theorem dX6_owner_17 : decode cX6_owner 17 = .ok (.iload_n 3, 1) := by decide +kernel
theorem dX6_owner_18 : decode cX6_owner 18 = .ok (.iconst 0, 1) := by decide +kernel
theorem dX6_owner_19 : decode cX6_owner 19 = .ok (.ldc 100, 2) := by decide +kernel
theorem dX6_owner_21 : decode cX6_owner 21 = .ok (.invokestatic 58, 3) := by decide +kernel
theorem dX6_owner_24 : decode cX6_owner 24 = .ok (.ifCond .ne 5, 3) := by decide +kernel
theorem dX6_owner_27 : decode cX6_owner 27 = .ok (.iconst (-1), 1) := by decide +kernel
theorem dX6_owner_28 : decode cX6_owner 28 = .ok (.ireturn, 1) := by decide +kernel
theorem dX6_owner_29 : decode cX6_owner 29 = .ok (.aload_n 0, 1) := by decide +kernel
theorem dX6_owner_30 : decode cX6_owner 30 = .ok (.getfield 25, 3) := by decide +kernel
theorem dX6_owner_33 : decode cX6_owner 33 = .ok (.aload_n 0, 1) := by decide +kernel
theorem dX6_owner_34 : decode cX6_owner 34 = .ok (.getfield 10, 3) := by decide +kernel
theorem dX6_owner_37 : decode cX6_owner 37 = .ok (.invokevirtual 62, 3) := by decide +kernel
theorem dX6_owner_40 : decode cX6_owner 40 = .ok (.aload_n 0, 1) := by decide +kernel
theorem dX6_owner_41 : decode cX6_owner 41 = .ok (.getfield 10, 3) := by decide +kernel
theorem dX6_owner_44 : decode cX6_owner 44 = .ok (.getfield 101, 3) := by decide +kernel
theorem dX6_owner_47 : decode cX6_owner 47 = .ok (.iload_n 1, 1) := by decide +kernel
theorem dX6_owner_48 : decode cX6_owner 48 = .ok (.iaload, 1) := by decide +kernel
theorem dX6_owner_49 : decode cX6_owner 49 = .ok (.istore 5, 2) := by decide +kernel
theorem dX6_owner_51 : decode cX6_owner 51 = .ok (.aload_n 0, 1) := by decide +kernel
theorem dX6_owner_52 : decode cX6_owner 52 = .ok (.getfield 10, 3) := by decide +kernel
theorem dX6_owner_55 : decode cX6_owner 55 = .ok (.getfield 101, 3) := by decide +kernel
theorem dX6_owner_58 : decode cX6_owner 58 = .ok (.iload_n 1, 1) := by decide +kernel
theorem dX6_owner_59 : decode cX6_owner 59 = .ok (.iload_n 2, 1) := by decide +kernel
theorem dX6_owner_60 : decode cX6_owner 60 = .ok (.iastore, 1) := by decide +kernel
theorem dX6_owner_61 : decode cX6_owner 61 = .ok (.aload_n 0, 1) := by decide +kernel
theorem dX6_owner_62 : decode cX6_owner 62 = .ok (.getfield 10, 3) := by decide +kernel
theorem dX6_owner_65 : decode cX6_owner 65 = .ok (.getfield 104, 3) := by decide +kernel
theorem dX6_owner_68 : decode cX6_owner 68 = .ok (.iload_n 1, 1) := by decide +kernel
theorem dX6_owner_69 : decode cX6_owner 69 = .ok (.iload_n 3, 1) := by decide +kernel
theorem dX6_owner_70 : decode cX6_owner 70 = .ok (.iastore, 1) := by decide +kernel
theorem dX6_owner_71 : decode cX6_owner 71 = .ok (.aload_n 0, 1) := by decide +kernel
theorem dX6_owner_72 : decode cX6_owner 72 = .ok (.getfield 10, 3) := by decide +kernel
theorem dX6_owner_75 : decode cX6_owner 75 = .ok (.iload_n 1, 1) := by decide +kernel
theorem dX6_owner_76 : decode cX6_owner 76 = .ok (.iload 4, 2) := by decide +kernel
theorem dX6_owner_78 : decode cX6_owner 78 = .ok (.invokevirtual 107, 3) := by decide +kernel
theorem dX6_owner_81 : decode cX6_owner 81 = .ok (.iload 5, 2) := by decide +kernel
theorem dX6_owner_83 : decode cX6_owner 83 = .ok (.ireturn, 1) := by decide +kernel
theorem dX6_reach_0 : decode cX6_reach 0 = .ok (.iload_n 1, 1) := by decide +kernel
theorem dX6_reach_1 : decode cX6_reach 1 = .ok (.iconst 0, 1) := by decide +kernel
theorem dX6_reach_2 : decode cX6_reach 2 = .ok (.iconst 3, 1) := by decide +kernel
theorem dX6_reach_3 : decode cX6_reach 3 = .ok (.invokestatic 58, 3) := by decide +kernel
theorem dX6_reach_6 : decode cX6_reach 6 = .ok (.ifCond .ne 5, 3) := by decide +kernel
theorem dX6_reach_9 : decode cX6_reach 9 = .ok (.iconst (-1), 1) := by decide +kernel
theorem dX6_reach_10 : decode cX6_reach 10 = .ok (.ireturn, 1) := by decide +kernel
theorem dX6_reach_11 : decode cX6_reach 11 = .ok (.aload_n 0, 1) := by decide +kernel
theorem dX6_reach_12 : decode cX6_reach 12 = .ok (.getfield 25, 3) := by decide +kernel
theorem dX6_reach_15 : decode cX6_reach 15 = .ok (.aload_n 0, 1) := by decide +kernel
theorem dX6_reach_16 : decode cX6_reach 16 = .ok (.getfield 10, 3) := by decide +kernel
theorem dX6_reach_19 : decode cX6_reach 19 = .ok (.invokevirtual 62, 3) := by decide +kernel
theorem dX6_reach_22 : decode cX6_reach 22 = .ok (.aload_n 0, 1) := by decide +kernel
theorem dX6_reach_23 : decode cX6_reach 23 = .ok (.getfield 10, 3) := by decide +kernel
theorem dX6_reach_26 : decode cX6_reach 26 = .ok (.getfield 111, 3) := by decide +kernel
theorem dX6_reach_29 : decode cX6_reach 29 = .ok (.istore_n 2, 1) := by decide +kernel
theorem dX6_reach_30 : decode cX6_reach 30 = .ok (.aload_n 0, 1) := by decide +kernel
theorem dX6_reach_31 : decode cX6_reach 31 = .ok (.getfield 10, 3) := by decide +kernel
theorem dX6_reach_34 : decode cX6_reach 34 = .ok (.iload_n 1, 1) := by decide +kernel
theorem dX6_reach_35 : decode cX6_reach 35 = .ok (.putfield 111, 3) := by decide +kernel
theorem dX6_reach_38 : decode cX6_reach 38 = .ok (.iload_n 2, 1) := by decide +kernel
theorem dX6_reach_39 : decode cX6_reach 39 = .ok (.ireturn, 1) := by decide +kernel
theorem dX6_hang_0 : decode cX6_hang 0 = .ok (.iload_n 1, 1) := by decide +kernel
theorem dX6_hang_1 : decode cX6_hang 1 = .ok (.invokestatic 97, 3) := by decide +kernel
theorem dX6_hang_4 : decode cX6_hang 4 = .ok (.ifCond .eq 10, 3) := by decide +kernel
theorem dX6_hang_7 : decode cX6_hang 7 = .ok (.iload_n 2, 1) := by decide +kernel
theorem dX6_hang_8 : decode cX6_hang 8 = .ok (.invokestatic 52, 3) := by decide +kernel
theorem dX6_hang_11 : decode cX6_hang 11 = .ok (.ifCond .ne 5, 3) := by decide +kernel
theorem dX6_hang_14 : decode cX6_hang 14 = .ok (.iconst (-1), 1) := by decide +kernel
theorem dX6_hang_15 : decode cX6_hang 15 = .ok (.ireturn, 1) := by decide +kernel
theorem dX6_hang_16 : decode cX6_hang 16 = .ok (.aload_n 0, 1) := by decide +kernel
theorem dX6_hang_17 : decode cX6_hang 17 = .ok (.getfield 25, 3) := by decide +kernel
theorem dX6_hang_20 : decode cX6_hang 20 = .ok (.aload_n 0, 1) := by decide +kernel
theorem dX6_hang_21 : decode cX6_hang 21 = .ok (.getfield 10, 3) := by decide +kernel
theorem dX6_hang_24 : decode cX6_hang 24 = .ok (.invokevirtual 62, 3) := by decide +kernel
theorem dX6_hang_27 : decode cX6_hang 27 = .ok (.aload_n 0, 1) := by decide +kernel
theorem dX6_hang_28 : decode cX6_hang 28 = .ok (.getfield 10, 3) := by decide +kernel
theorem dX6_hang_31 : decode cX6_hang 31 = .ok (.iload_n 1, 1) := by decide +kernel
theorem dX6_hang_32 : decode cX6_hang 32 = .ok (.iload_n 2, 1) := by decide +kernel
theorem dX6_hang_33 : decode cX6_hang 33 = .ok (.invokevirtual 114, 3) := by decide +kernel
theorem dX6_hang_36 : decode cX6_hang 36 = .ok (.ireturn, 1) := by decide +kernel
theorem dX6_take_0 : decode cX6_take 0 = .ok (.iload_n 1, 1) := by decide +kernel
theorem dX6_take_1 : decode cX6_take 1 = .ok (.invokestatic 97, 3) := by decide +kernel
theorem dX6_take_4 : decode cX6_take 4 = .ok (.ifCond .eq 10, 3) := by decide +kernel
theorem dX6_take_7 : decode cX6_take 7 = .ok (.iload_n 2, 1) := by decide +kernel
theorem dX6_take_8 : decode cX6_take 8 = .ok (.invokestatic 52, 3) := by decide +kernel
theorem dX6_take_11 : decode cX6_take 11 = .ok (.ifCond .ne 5, 3) := by decide +kernel
theorem dX6_take_14 : decode cX6_take 14 = .ok (.iconst (-1), 1) := by decide +kernel
theorem dX6_take_15 : decode cX6_take 15 = .ok (.ireturn, 1) := by decide +kernel
theorem dX6_take_16 : decode cX6_take 16 = .ok (.aload_n 0, 1) := by decide +kernel
theorem dX6_take_17 : decode cX6_take 17 = .ok (.getfield 25, 3) := by decide +kernel
theorem dX6_take_20 : decode cX6_take 20 = .ok (.aload_n 0, 1) := by decide +kernel
theorem dX6_take_21 : decode cX6_take 21 = .ok (.getfield 10, 3) := by decide +kernel
theorem dX6_take_24 : decode cX6_take 24 = .ok (.invokevirtual 62, 3) := by decide +kernel
theorem dX6_take_27 : decode cX6_take 27 = .ok (.aload_n 0, 1) := by decide +kernel
theorem dX6_take_28 : decode cX6_take 28 = .ok (.getfield 10, 3) := by decide +kernel
theorem dX6_take_31 : decode cX6_take 31 = .ok (.iload_n 1, 1) := by decide +kernel
theorem dX6_take_32 : decode cX6_take 32 = .ok (.iload_n 2, 1) := by decide +kernel
theorem dX6_take_33 : decode cX6_take 33 = .ok (.invokevirtual 118, 3) := by decide +kernel
theorem dX6_take_36 : decode cX6_take 36 = .ok (.ireturn, 1) := by decide +kernel
theorem dX6_walk_0 : decode cX6_walk 0 = .ok (.iload_n 1, 1) := by decide +kernel
theorem dX6_walk_1 : decode cX6_walk 1 = .ok (.invokestatic 97, 3) := by decide +kernel
theorem dX6_walk_4 : decode cX6_walk 4 = .ok (.ifCond .eq 10, 3) := by decide +kernel
theorem dX6_walk_7 : decode cX6_walk 7 = .ok (.iload_n 2, 1) := by decide +kernel
theorem dX6_walk_8 : decode cX6_walk 8 = .ok (.invokestatic 52, 3) := by decide +kernel
theorem dX6_walk_11 : decode cX6_walk 11 = .ok (.ifCond .ne 5, 3) := by decide +kernel
theorem dX6_walk_14 : decode cX6_walk 14 = .ok (.iconst (-1), 1) := by decide +kernel
theorem dX6_walk_15 : decode cX6_walk 15 = .ok (.ireturn, 1) := by decide +kernel
theorem dX6_walk_16 : decode cX6_walk 16 = .ok (.aload_n 0, 1) := by decide +kernel
theorem dX6_walk_17 : decode cX6_walk 17 = .ok (.getfield 10, 3) := by decide +kernel
theorem dX6_walk_20 : decode cX6_walk 20 = .ok (.iload_n 1, 1) := by decide +kernel
theorem dX6_walk_21 : decode cX6_walk 21 = .ok (.iload_n 2, 1) := by decide +kernel
theorem dX6_walk_22 : decode cX6_walk 22 = .ok (.invokevirtual 121, 3) := by decide +kernel
theorem dX6_walk_25 : decode cX6_walk 25 = .ok (.ifCond .ne 6, 3) := by decide +kernel
theorem dX6_walk_28 : decode cX6_walk 28 = .ok (.bipush (-2), 2) := by decide +kernel
theorem dX6_walk_30 : decode cX6_walk 30 = .ok (.ireturn, 1) := by decide +kernel
theorem dX6_walk_31 : decode cX6_walk 31 = .ok (.aload_n 0, 1) := by decide +kernel
theorem dX6_walk_32 : decode cX6_walk 32 = .ok (.getfield 25, 3) := by decide +kernel
theorem dX6_walk_35 : decode cX6_walk 35 = .ok (.aload_n 0, 1) := by decide +kernel
theorem dX6_walk_36 : decode cX6_walk 36 = .ok (.getfield 10, 3) := by decide +kernel
theorem dX6_walk_39 : decode cX6_walk 39 = .ok (.invokevirtual 62, 3) := by decide +kernel
theorem dX6_walk_42 : decode cX6_walk 42 = .ok (.aload_n 0, 1) := by decide +kernel
theorem dX6_walk_43 : decode cX6_walk 43 = .ok (.getfield 10, 3) := by decide +kernel
theorem dX6_walk_46 : decode cX6_walk 46 = .ok (.iload_n 1, 1) := by decide +kernel
theorem dX6_walk_47 : decode cX6_walk 47 = .ok (.iload_n 2, 1) := by decide +kernel
theorem dX6_walk_48 : decode cX6_walk 48 = .ok (.invokevirtual 125, 3) := by decide +kernel
theorem dX6_walk_51 : decode cX6_walk 51 = .ok (.ireturn, 1) := by decide +kernel
theorem dX6_day_0 : decode cX6_day 0 = .ok (.aload_n 0, 1) := by decide +kernel
theorem dX6_day_1 : decode cX6_day 1 = .ok (.getfield 25, 3) := by decide +kernel
theorem dX6_day_4 : decode cX6_day 4 = .ok (.aload_n 0, 1) := by decide +kernel
theorem dX6_day_5 : decode cX6_day 5 = .ok (.getfield 10, 3) := by decide +kernel
theorem dX6_day_8 : decode cX6_day 8 = .ok (.invokevirtual 62, 3) := by decide +kernel
theorem dX6_day_11 : decode cX6_day 11 = .ok (.aload_n 0, 1) := by decide +kernel
theorem dX6_day_12 : decode cX6_day 12 = .ok (.getfield 10, 3) := by decide +kernel
theorem dX6_day_15 : decode cX6_day 15 = .ok (.invokevirtual 128, 3) := by decide +kernel
theorem dX6_day_18 : decode cX6_day 18 = .ok (.aload_n 0, 1) := by decide +kernel
theorem dX6_day_19 : decode cX6_day 19 = .ok (.getfield 10, 3) := by decide +kernel
theorem dX6_day_22 : decode cX6_day 22 = .ok (.invokevirtual 131, 3) := by decide +kernel
theorem dX6_day_25 : decode cX6_day 25 = .ok (.invokestatic 89, 3) := by decide +kernel
theorem dX6_day_28 : decode cX6_day 28 = .ok (.ireturn, 1) := by decide +kernel
theorem dX6_append_0 : decode cX6_append 0 = .ok (.iload_n 1, 1) := by decide +kernel
theorem dX6_append_1 : decode cX6_append 1 = .ok (.bipush 33, 2) := by decide +kernel
theorem dX6_append_3 : decode cX6_append 3 = .ok (.bipush 126, 2) := by decide +kernel
theorem dX6_append_5 : decode cX6_append 5 = .ok (.invokestatic 58, 3) := by decide +kernel
theorem dX6_append_8 : decode cX6_append 8 = .ok (.ifCond .ne 5, 3) := by decide +kernel
theorem dX6_append_11 : decode cX6_append 11 = .ok (.iconst (-1), 1) := by decide +kernel
theorem dX6_append_12 : decode cX6_append 12 = .ok (.ireturn, 1) := by decide +kernel
theorem dX6_append_13 : decode cX6_append 13 = .ok (.aload_n 0, 1) := by decide +kernel
theorem dX6_append_14 : decode cX6_append 14 = .ok (.getfield 39, 3) := by decide +kernel
theorem dX6_append_17 : decode cX6_append 17 = .ok (.getfield 135, 3) := by decide +kernel
theorem dX6_append_20 : decode cX6_append 20 = .ok (.bipush 60, 2) := by decide +kernel
theorem dX6_append_22 : decode cX6_append 22 = .ok (.if_icmp .lt 6, 3) := by decide +kernel
theorem dX6_append_25 : decode cX6_append 25 = .ok (.bipush (-3), 2) := by decide +kernel
theorem dX6_append_27 : decode cX6_append 27 = .ok (.ireturn, 1) := by decide +kernel
theorem dX6_append_28 : decode cX6_append 28 = .ok (.aload_n 0, 1) := by decide +kernel
theorem dX6_append_29 : decode cX6_append 29 = .ok (.getfield 39, 3) := by decide +kernel
theorem dX6_append_32 : decode cX6_append 32 = .ok (.iload_n 1, 1) := by decide +kernel
theorem dX6_append_33 : decode cX6_append 33 = .ok (.i2c, 1) := by decide +kernel
theorem dX6_append_34 : decode cX6_append 34 = .ok (.invokevirtual 138, 3) := by decide +kernel
theorem dX6_append_37 : decode cX6_append 37 = .ok (.aload_n 0, 1) := by decide +kernel
theorem dX6_append_38 : decode cX6_append 38 = .ok (.getfield 39, 3) := by decide +kernel
theorem dX6_append_41 : decode cX6_append 41 = .ok (.getfield 135, 3) := by decide +kernel
theorem dX6_append_44 : decode cX6_append 44 = .ok (.ireturn, 1) := by decide +kernel
theorem dX6_clear_0 : decode cX6_clear 0 = .ok (.aload_n 0, 1) := by decide +kernel
theorem dX6_clear_1 : decode cX6_clear 1 = .ok (.getfield 39, 3) := by decide +kernel
theorem dX6_clear_4 : decode cX6_clear 4 = .ok (.getfield 135, 3) := by decide +kernel
theorem dX6_clear_7 : decode cX6_clear 7 = .ok (.istore_n 1, 1) := by decide +kernel
theorem dX6_clear_8 : decode cX6_clear 8 = .ok (.aload_n 0, 1) := by decide +kernel
theorem dX6_clear_9 : decode cX6_clear 9 = .ok (.getfield 39, 3) := by decide +kernel
theorem dX6_clear_12 : decode cX6_clear 12 = .ok (.iconst 0, 1) := by decide +kernel
theorem dX6_clear_13 : decode cX6_clear 13 = .ok (.putfield 135, 3) := by decide +kernel
theorem dX6_clear_16 : decode cX6_clear 16 = .ok (.iload_n 1, 1) := by decide +kernel
theorem dX6_clear_17 : decode cX6_clear 17 = .ok (.ireturn, 1) := by decide +kernel
theorem dX6_fault_0 : decode cX6_fault 0 = .ok (.aload_n 0, 1) := by decide +kernel
theorem dX6_fault_1 : decode cX6_fault 1 = .ok (.getfield 48, 3) := by decide +kernel
theorem dX6_fault_4 : decode cX6_fault 4 = .ok (.invokevirtual 142, 3) := by decide +kernel
theorem dX6_fault_7 : decode cX6_fault 7 = .ok (.ireturn, 1) := by decide +kernel
theorem dX6_run_0 : decode cX6_run 0 = .ok (.aload_n 0, 1) := by decide +kernel
theorem dX6_run_1 : decode cX6_run 1 = .ok (.getfield 48, 3) := by decide +kernel
theorem dX6_run_4 : decode cX6_run 4 = .ok (.invokevirtual 142, 3) := by decide +kernel
theorem dX6_run_7 : decode cX6_run 7 = .ok (.bipush (-4), 2) := by decide +kernel
theorem dX6_run_9 : decode cX6_run 9 = .ok (.if_icmp .eq 6, 3) := by decide +kernel
theorem dX6_run_12 : decode cX6_run 12 = .ok (.bipush (-2), 2) := by decide +kernel
theorem dX6_run_14 : decode cX6_run 14 = .ok (.ireturn, 1) := by decide +kernel
theorem dX6_run_15 : decode cX6_run 15 = .ok (.aload_n 0, 1) := by decide +kernel
theorem dX6_run_16 : decode cX6_run 16 = .ok (.getfield 25, 3) := by decide +kernel
theorem dX6_run_19 : decode cX6_run 19 = .ok (.aload_n 0, 1) := by decide +kernel
theorem dX6_run_20 : decode cX6_run 20 = .ok (.getfield 10, 3) := by decide +kernel
theorem dX6_run_23 : decode cX6_run 23 = .ok (.invokevirtual 62, 3) := by decide +kernel
theorem dX6_run_26 : decode cX6_run 26 = .ok (.aload_n 0, 1) := by decide +kernel
theorem dX6_run_27 : decode cX6_run 27 = .ok (.iconst 0, 1) := by decide +kernel
theorem dX6_run_28 : decode cX6_run 28 = .ok (.putfield 145, 3) := by decide +kernel
theorem dX6_run_31 : decode cX6_run 31 = .ok (.aload_n 0, 1) := by decide +kernel
theorem dX6_run_32 : decode cX6_run 32 = .ok (.getfield 48, 3) := by decide +kernel
theorem dX6_run_35 : decode cX6_run 35 = .ok (.invokevirtual 149, 3) := by decide +kernel
theorem dX6_run_38 : decode cX6_run 38 = .ok (.iconst 0, 1) := by decide +kernel
theorem dX6_run_39 : decode cX6_run 39 = .ok (.istore_n 1, 1) := by decide +kernel
theorem dX6_run_40 : decode cX6_run 40 = .ok (.iconst 0, 1) := by decide +kernel
theorem dX6_run_41 : decode cX6_run 41 = .ok (.istore_n 2, 1) := by decide +kernel
theorem dX6_run_42 : decode cX6_run 42 = .ok (.iload_n 2, 1) := by decide +kernel
theorem dX6_run_43 : decode cX6_run 43 = .ok (.bipush 60, 2) := by decide +kernel
theorem dX6_run_45 : decode cX6_run 45 = .ok (.if_icmp .ge 47, 3) := by decide +kernel
theorem dX6_run_48 : decode cX6_run 48 = .ok (.aload_n 0, 1) := by decide +kernel
theorem dX6_run_49 : decode cX6_run 49 = .ok (.getfield 145, 3) := by decide +kernel
theorem dX6_run_52 : decode cX6_run 52 = .ok (.ifCond .ne 40, 3) := by decide +kernel
theorem dX6_run_55 : decode cX6_run 55 = .ok (.aload_n 0, 1) := by decide +kernel
theorem dX6_run_56 : decode cX6_run 56 = .ok (.getfield 48, 3) := by decide +kernel
theorem dX6_run_59 : decode cX6_run 59 = .ok (.invokevirtual 152, 3) := by decide +kernel
theorem dX6_run_62 : decode cX6_run 62 = .ok (.ifCond .eq 30, 3) := by decide +kernel
theorem dX6_run_65 : decode cX6_run 65 = .ok (.aload_n 0, 1) := by decide +kernel
theorem dX6_run_66 : decode cX6_run 66 = .ok (.invokevirtual 156, 3) := by decide +kernel
theorem dX6_run_69 : decode cX6_run 69 = .ok (.istore_n 3, 1) := by decide +kernel
theorem dX6_run_70 : decode cX6_run 70 = .ok (.iload_n 3, 1) := by decide +kernel
theorem dX6_run_71 : decode cX6_run 71 = .ok (.ifCond .ne 9, 3) := by decide +kernel
theorem dX6_run_74 : decode cX6_run 74 = .ok (.iinc 1 1, 3) := by decide +kernel
theorem dX6_run_77 : decode cX6_run 77 = .ok (.goto 9, 3) := by decide +kernel
theorem dX6_run_80 : decode cX6_run 80 = .ok (.aload_n 0, 1) := by decide +kernel
theorem dX6_run_81 : decode cX6_run 81 = .ok (.iload_n 3, 1) := by decide +kernel
theorem dX6_run_82 : decode cX6_run 82 = .ok (.iload_n 2, 1) := by decide +kernel
theorem dX6_run_83 : decode cX6_run 83 = .ok (.invokevirtual 159, 3) := by decide +kernel
theorem dX6_run_86 : decode cX6_run 86 = .ok (.iinc 2 1, 3) := by decide +kernel
theorem dX6_run_89 : decode cX6_run 89 = .ok (.goto (-47), 3) := by decide +kernel
theorem dX6_run_92 : decode cX6_run 92 = .ok (.aload_n 0, 1) := by decide +kernel
theorem dX6_run_93 : decode cX6_run 93 = .ok (.getfield 39, 3) := by decide +kernel
theorem dX6_run_96 : decode cX6_run 96 = .ok (.iconst 0, 1) := by decide +kernel
theorem dX6_run_97 : decode cX6_run 97 = .ok (.putfield 135, 3) := by decide +kernel
theorem dX6_run_100 : decode cX6_run 100 = .ok (.iload_n 1, 1) := by decide +kernel
theorem dX6_run_101 : decode cX6_run 101 = .ok (.ireturn, 1) := by decide +kernel
theorem dX6_why_0 : decode cX6_why 0 = .ok (.iload_n 1, 1) := by decide +kernel
theorem dX6_why_1 : decode cX6_why 1 = .ok (.iconst 0, 1) := by decide +kernel
theorem dX6_why_2 : decode cX6_why 2 = .ok (.iconst 2, 1) := by decide +kernel
theorem dX6_why_3 : decode cX6_why 3 = .ok (.invokestatic 58, 3) := by decide +kernel
theorem dX6_why_6 : decode cX6_why 6 = .ok (.ifCond .ne 5, 3) := by decide +kernel
theorem dX6_why_9 : decode cX6_why 9 = .ok (.iconst (-1), 1) := by decide +kernel
theorem dX6_why_10 : decode cX6_why 10 = .ok (.ireturn, 1) := by decide +kernel
theorem dX6_why_11 : decode cX6_why 11 = .ok (.aload_n 0, 1) := by decide +kernel
theorem dX6_why_12 : decode cX6_why 12 = .ok (.getfield 145, 3) := by decide +kernel
theorem dX6_why_15 : decode cX6_why 15 = .ok (.ifCond .ne 6, 3) := by decide +kernel
theorem dX6_why_18 : decode cX6_why 18 = .ok (.bipush (-4), 2) := by decide +kernel
theorem dX6_why_20 : decode cX6_why 20 = .ok (.ireturn, 1) := by decide +kernel
theorem dX6_why_21 : decode cX6_why 21 = .ok (.iload_n 1, 1) := by decide +kernel
theorem dX6_why_22 : decode cX6_why 22 = .ok (.lookupswitch 36 #[(0, 26), (1, 31)], 26) := by decide +kernel
theorem dX6_why_48 : decode cX6_why 48 = .ok (.aload_n 0, 1) := by decide +kernel
theorem dX6_why_49 : decode cX6_why 49 = .ok (.getfield 162, 3) := by decide +kernel
theorem dX6_why_52 : decode cX6_why 52 = .ok (.ireturn, 1) := by decide +kernel
theorem dX6_why_53 : decode cX6_why 53 = .ok (.aload_n 0, 1) := by decide +kernel
theorem dX6_why_54 : decode cX6_why 54 = .ok (.getfield 165, 3) := by decide +kernel
theorem dX6_why_57 : decode cX6_why 57 = .ok (.ireturn, 1) := by decide +kernel
theorem dX6_why_58 : decode cX6_why 58 = .ok (.aload_n 0, 1) := by decide +kernel
theorem dX6_why_59 : decode cX6_why 59 = .ok (.getfield 168, 3) := by decide +kernel
theorem dX6_why_62 : decode cX6_why 62 = .ok (.ireturn, 1) := by decide +kernel
theorem dX6_roof_0 : decode cX6_roof 0 = .ok (.iload_n 1, 1) := by decide +kernel
theorem dX6_roof_1 : decode cX6_roof 1 = .ok (.invokestatic 78, 3) := by decide +kernel
theorem dX6_roof_4 : decode cX6_roof 4 = .ok (.ifCond .eq 13, 3) := by decide +kernel
theorem dX6_roof_7 : decode cX6_roof 7 = .ok (.iload_n 2, 1) := by decide +kernel
theorem dX6_roof_8 : decode cX6_roof 8 = .ok (.iconst 0, 1) := by decide +kernel
theorem dX6_roof_9 : decode cX6_roof 9 = .ok (.bipush 7, 2) := by decide +kernel
theorem dX6_roof_11 : decode cX6_roof 11 = .ok (.invokestatic 58, 3) := by decide +kernel
theorem dX6_roof_14 : decode cX6_roof 14 = .ok (.ifCond .ne 5, 3) := by decide +kernel
theorem dX6_roof_17 : decode cX6_roof 17 = .ok (.iconst (-1), 1) := by decide +kernel
theorem dX6_roof_18 : decode cX6_roof 18 = .ok (.ireturn, 1) := by decide +kernel
theorem dX6_roof_19 : decode cX6_roof 19 = .ok (.iload_n 2, 1) := by decide +kernel
theorem dX6_roof_20 : decode cX6_roof 20 = .ok (.tableswitch 137 0 6 #[44, 56, 75, 84, 96, 105, 121], 44) := by decide +kernel
theorem dX6_roof_64 : decode cX6_roof 64 = .ok (.aload_n 0, 1) := by decide +kernel
theorem dX6_roof_65 : decode cX6_roof 65 = .ok (.getfield 10, 3) := by decide +kernel
theorem dX6_roof_68 : decode cX6_roof 68 = .ok (.getfield 171, 3) := by decide +kernel
theorem dX6_roof_71 : decode cX6_roof 71 = .ok (.iload_n 1, 1) := by decide +kernel
theorem dX6_roof_72 : decode cX6_roof 72 = .ok (.invokestatic 174, 3) := by decide +kernel
theorem dX6_roof_75 : decode cX6_roof 75 = .ok (.ireturn, 1) := by decide +kernel
theorem dX6_roof_76 : decode cX6_roof 76 = .ok (.aload_n 0, 1) := by decide +kernel
theorem dX6_roof_77 : decode cX6_roof 77 = .ok (.getfield 10, 3) := by decide +kernel
theorem dX6_roof_80 : decode cX6_roof 80 = .ok (.aload_n 0, 1) := by decide +kernel
theorem dX6_roof_81 : decode cX6_roof 81 = .ok (.getfield 10, 3) := by decide +kernel
theorem dX6_roof_84 : decode cX6_roof 84 = .ok (.getfield 74, 3) := by decide +kernel
theorem dX6_roof_87 : decode cX6_roof 87 = .ok (.invokevirtual 85, 3) := by decide +kernel
theorem dX6_roof_90 : decode cX6_roof 90 = .ok (.iload_n 1, 1) := by decide +kernel
theorem dX6_roof_91 : decode cX6_roof 91 = .ok (.invokestatic 174, 3) := by decide +kernel
theorem dX6_roof_94 : decode cX6_roof 94 = .ok (.ireturn, 1) := by decide +kernel
theorem dX6_roof_95 : decode cX6_roof 95 = .ok (.aload_n 0, 1) := by decide +kernel
theorem dX6_roof_96 : decode cX6_roof 96 = .ok (.getfield 10, 3) := by decide +kernel
theorem dX6_roof_99 : decode cX6_roof 99 = .ok (.iload_n 1, 1) := by decide +kernel
theorem dX6_roof_100 : decode cX6_roof 100 = .ok (.invokevirtual 177, 3) := by decide +kernel
theorem dX6_roof_103 : decode cX6_roof 103 = .ok (.ireturn, 1) := by decide +kernel
theorem dX6_roof_104 : decode cX6_roof 104 = .ok (.aload_n 0, 1) := by decide +kernel
theorem dX6_roof_105 : decode cX6_roof 105 = .ok (.getfield 10, 3) := by decide +kernel
theorem dX6_roof_108 : decode cX6_roof 108 = .ok (.getfield 94, 3) := by decide +kernel
theorem dX6_roof_111 : decode cX6_roof 111 = .ok (.iload_n 1, 1) := by decide +kernel
theorem dX6_roof_112 : decode cX6_roof 112 = .ok (.invokestatic 174, 3) := by decide +kernel
theorem dX6_roof_115 : decode cX6_roof 115 = .ok (.ireturn, 1) := by decide +kernel
theorem dX6_roof_116 : decode cX6_roof 116 = .ok (.aload_n 0, 1) := by decide +kernel
theorem dX6_roof_117 : decode cX6_roof 117 = .ok (.getfield 10, 3) := by decide +kernel
theorem dX6_roof_120 : decode cX6_roof 120 = .ok (.iload_n 1, 1) := by decide +kernel
theorem dX6_roof_121 : decode cX6_roof 121 = .ok (.invokevirtual 180, 3) := by decide +kernel
theorem dX6_roof_124 : decode cX6_roof 124 = .ok (.ireturn, 1) := by decide +kernel
theorem dX6_roof_125 : decode cX6_roof 125 = .ok (.aload_n 0, 1) := by decide +kernel
theorem dX6_roof_126 : decode cX6_roof 126 = .ok (.getfield 10, 3) := by decide +kernel
theorem dX6_roof_129 : decode cX6_roof 129 = .ok (.invokevirtual 183, 3) := by decide +kernel
theorem dX6_roof_132 : decode cX6_roof 132 = .ok (.iload_n 1, 1) := by decide +kernel
theorem dX6_roof_133 : decode cX6_roof 133 = .ok (.invokestatic 186, 3) := by decide +kernel
theorem dX6_roof_136 : decode cX6_roof 136 = .ok (.iand, 1) := by decide +kernel
theorem dX6_roof_137 : decode cX6_roof 137 = .ok (.invokestatic 89, 3) := by decide +kernel
theorem dX6_roof_140 : decode cX6_roof 140 = .ok (.ireturn, 1) := by decide +kernel
theorem dX6_roof_141 : decode cX6_roof 141 = .ok (.aload_n 0, 1) := by decide +kernel
theorem dX6_roof_142 : decode cX6_roof 142 = .ok (.getfield 10, 3) := by decide +kernel
theorem dX6_roof_145 : decode cX6_roof 145 = .ok (.invokevirtual 189, 3) := by decide +kernel
theorem dX6_roof_148 : decode cX6_roof 148 = .ok (.iload_n 1, 1) := by decide +kernel
theorem dX6_roof_149 : decode cX6_roof 149 = .ok (.invokestatic 186, 3) := by decide +kernel
theorem dX6_roof_152 : decode cX6_roof 152 = .ok (.iand, 1) := by decide +kernel
theorem dX6_roof_153 : decode cX6_roof 153 = .ok (.invokestatic 89, 3) := by decide +kernel
theorem dX6_roof_156 : decode cX6_roof 156 = .ok (.ireturn, 1) := by decide +kernel
theorem dX6_roof_157 : decode cX6_roof 157 = .ok (.aload_n 0, 1) := by decide +kernel
theorem dX6_roof_158 : decode cX6_roof 158 = .ok (.getfield 32, 3) := by decide +kernel
theorem dX6_roof_161 : decode cX6_roof 161 = .ok (.aload_n 0, 1) := by decide +kernel
theorem dX6_roof_162 : decode cX6_roof 162 = .ok (.getfield 10, 3) := by decide +kernel
theorem dX6_roof_165 : decode cX6_roof 165 = .ok (.iload_n 1, 1) := by decide +kernel
theorem dX6_roof_166 : decode cX6_roof 166 = .ok (.invokevirtual 192, 3) := by decide +kernel
theorem dX6_roof_169 : decode cX6_roof 169 = .ok (.invokestatic 89, 3) := by decide +kernel
theorem dX6_roof_172 : decode cX6_roof 172 = .ok (.ireturn, 1) := by decide +kernel
theorem dX6_gangway_0 : decode cX6_gangway 0 = .ok (.iload_n 1, 1) := by decide +kernel
theorem dX6_gangway_1 : decode cX6_gangway 1 = .ok (.invokestatic 52, 3) := by decide +kernel
theorem dX6_gangway_4 : decode cX6_gangway 4 = .ok (.ifCond .eq 13, 3) := by decide +kernel
theorem dX6_gangway_7 : decode cX6_gangway 7 = .ok (.iload_n 2, 1) := by decide +kernel
theorem dX6_gangway_8 : decode cX6_gangway 8 = .ok (.iconst 0, 1) := by decide +kernel
theorem dX6_gangway_9 : decode cX6_gangway 9 = .ok (.bipush 6, 2) := by decide +kernel
theorem dX6_gangway_11 : decode cX6_gangway 11 = .ok (.invokestatic 58, 3) := by decide +kernel
theorem dX6_gangway_14 : decode cX6_gangway 14 = .ok (.ifCond .ne 5, 3) := by decide +kernel
theorem dX6_gangway_17 : decode cX6_gangway 17 = .ok (.iconst (-1), 1) := by decide +kernel
theorem dX6_gangway_18 : decode cX6_gangway 18 = .ok (.ireturn, 1) := by decide +kernel
theorem dX6_gangway_19 : decode cX6_gangway 19 = .ok (.iload_n 2, 1) := by decide +kernel
theorem dX6_gangway_20 : decode cX6_gangway 20 = .ok (.tableswitch 138 0 5 #[40, 50, 55, 60, 86, 112], 40) := by decide +kernel
theorem dX6_gangway_60 : decode cX6_gangway 60 = .ok (.aload_n 0, 1) := by decide +kernel
theorem dX6_gangway_61 : decode cX6_gangway 61 = .ok (.getfield 10, 3) := by decide +kernel
theorem dX6_gangway_64 : decode cX6_gangway 64 = .ok (.getfield 66, 3) := by decide +kernel
theorem dX6_gangway_67 : decode cX6_gangway 67 = .ok (.iload_n 1, 1) := by decide +kernel
theorem dX6_gangway_68 : decode cX6_gangway 68 = .ok (.iaload, 1) := by decide +kernel
theorem dX6_gangway_69 : decode cX6_gangway 69 = .ok (.ireturn, 1) := by decide +kernel
theorem dX6_gangway_70 : decode cX6_gangway 70 = .ok (.iload_n 1, 1) := by decide +kernel
theorem dX6_gangway_71 : decode cX6_gangway 71 = .ok (.invokestatic 196, 3) := by decide +kernel
theorem dX6_gangway_74 : decode cX6_gangway 74 = .ok (.ireturn, 1) := by decide +kernel
theorem dX6_gangway_75 : decode cX6_gangway 75 = .ok (.iload_n 1, 1) := by decide +kernel
theorem dX6_gangway_76 : decode cX6_gangway 76 = .ok (.invokestatic 199, 3) := by decide +kernel
theorem dX6_gangway_79 : decode cX6_gangway 79 = .ok (.ireturn, 1) := by decide +kernel
theorem dX6_gangway_80 : decode cX6_gangway 80 = .ok (.aload_n 0, 1) := by decide +kernel
theorem dX6_gangway_81 : decode cX6_gangway 81 = .ok (.getfield 10, 3) := by decide +kernel
theorem dX6_gangway_84 : decode cX6_gangway 84 = .ok (.iload_n 1, 1) := by decide +kernel
theorem dX6_gangway_85 : decode cX6_gangway 85 = .ok (.invokevirtual 202, 3) := by decide +kernel
theorem dX6_gangway_88 : decode cX6_gangway 88 = .ok (.ifCond .eq 15, 3) := by decide +kernel
theorem dX6_gangway_91 : decode cX6_gangway 91 = .ok (.aload_n 0, 1) := by decide +kernel
theorem dX6_gangway_92 : decode cX6_gangway 92 = .ok (.getfield 10, 3) := by decide +kernel
theorem dX6_gangway_95 : decode cX6_gangway 95 = .ok (.getfield 205, 3) := by decide +kernel
theorem dX6_gangway_98 : decode cX6_gangway 98 = .ok (.iload_n 1, 1) := by decide +kernel
theorem dX6_gangway_99 : decode cX6_gangway 99 = .ok (.iaload, 1) := by decide +kernel
theorem dX6_gangway_100 : decode cX6_gangway 100 = .ok (.goto 5, 3) := by decide +kernel
theorem dX6_gangway_103 : decode cX6_gangway 103 = .ok (.bipush (-4), 2) := by decide +kernel
theorem dX6_gangway_105 : decode cX6_gangway 105 = .ok (.ireturn, 1) := by decide +kernel
theorem dX6_gangway_106 : decode cX6_gangway 106 = .ok (.aload_n 0, 1) := by decide +kernel
theorem dX6_gangway_107 : decode cX6_gangway 107 = .ok (.getfield 10, 3) := by decide +kernel
theorem dX6_gangway_110 : decode cX6_gangway 110 = .ok (.iload_n 1, 1) := by decide +kernel
theorem dX6_gangway_111 : decode cX6_gangway 111 = .ok (.invokevirtual 202, 3) := by decide +kernel
theorem dX6_gangway_114 : decode cX6_gangway 114 = .ok (.ifCond .eq 15, 3) := by decide +kernel
theorem dX6_gangway_117 : decode cX6_gangway 117 = .ok (.aload_n 0, 1) := by decide +kernel
theorem dX6_gangway_118 : decode cX6_gangway 118 = .ok (.getfield 10, 3) := by decide +kernel
theorem dX6_gangway_121 : decode cX6_gangway 121 = .ok (.getfield 208, 3) := by decide +kernel
theorem dX6_gangway_124 : decode cX6_gangway 124 = .ok (.iload_n 1, 1) := by decide +kernel
theorem dX6_gangway_125 : decode cX6_gangway 125 = .ok (.iaload, 1) := by decide +kernel
theorem dX6_gangway_126 : decode cX6_gangway 126 = .ok (.goto 5, 3) := by decide +kernel
theorem dX6_gangway_129 : decode cX6_gangway 129 = .ok (.bipush (-4), 2) := by decide +kernel
theorem dX6_gangway_131 : decode cX6_gangway 131 = .ok (.ireturn, 1) := by decide +kernel
theorem dX6_gangway_132 : decode cX6_gangway 132 = .ok (.aload_n 0, 1) := by decide +kernel
theorem dX6_gangway_133 : decode cX6_gangway 133 = .ok (.getfield 10, 3) := by decide +kernel
theorem dX6_gangway_136 : decode cX6_gangway 136 = .ok (.iload_n 1, 1) := by decide +kernel
theorem dX6_gangway_137 : decode cX6_gangway 137 = .ok (.invokevirtual 202, 3) := by decide +kernel
theorem dX6_gangway_140 : decode cX6_gangway 140 = .ok (.ifCond .eq 15, 3) := by decide +kernel
theorem dX6_gangway_143 : decode cX6_gangway 143 = .ok (.aload_n 0, 1) := by decide +kernel
theorem dX6_gangway_144 : decode cX6_gangway 144 = .ok (.getfield 10, 3) := by decide +kernel
theorem dX6_gangway_147 : decode cX6_gangway 147 = .ok (.getfield 211, 3) := by decide +kernel
theorem dX6_gangway_150 : decode cX6_gangway 150 = .ok (.iload_n 1, 1) := by decide +kernel
theorem dX6_gangway_151 : decode cX6_gangway 151 = .ok (.iaload, 1) := by decide +kernel
theorem dX6_gangway_152 : decode cX6_gangway 152 = .ok (.goto 5, 3) := by decide +kernel
theorem dX6_gangway_155 : decode cX6_gangway 155 = .ok (.bipush (-4), 2) := by decide +kernel
theorem dX6_gangway_157 : decode cX6_gangway 157 = .ok (.ireturn, 1) := by decide +kernel
theorem dX6_gangway_158 : decode cX6_gangway 158 = .ok (.aload_n 0, 1) := by decide +kernel
theorem dX6_gangway_159 : decode cX6_gangway 159 = .ok (.getfield 10, 3) := by decide +kernel
theorem dX6_gangway_162 : decode cX6_gangway 162 = .ok (.aload_n 0, 1) := by decide +kernel
theorem dX6_gangway_163 : decode cX6_gangway 163 = .ok (.getfield 10, 3) := by decide +kernel
theorem dX6_gangway_166 : decode cX6_gangway 166 = .ok (.getfield 74, 3) := by decide +kernel
theorem dX6_gangway_169 : decode cX6_gangway 169 = .ok (.invokevirtual 85, 3) := by decide +kernel
theorem dX6_gangway_172 : decode cX6_gangway 172 = .ok (.iload_n 1, 1) := by decide +kernel
theorem dX6_gangway_173 : decode cX6_gangway 173 = .ok (.invokestatic 214, 3) := by decide +kernel
theorem dX6_gangway_176 : decode cX6_gangway 176 = .ok (.iand, 1) := by decide +kernel
theorem dX6_gangway_177 : decode cX6_gangway 177 = .ok (.invokestatic 89, 3) := by decide +kernel
theorem dX6_gangway_180 : decode cX6_gangway 180 = .ok (.ireturn, 1) := by decide +kernel
theorem dX6_ownerOf_0 : decode cX6_ownerOf 0 = .ok (.iload_n 1, 1) := by decide +kernel
theorem dX6_ownerOf_1 : decode cX6_ownerOf 1 = .ok (.invokestatic 97, 3) := by decide +kernel
theorem dX6_ownerOf_4 : decode cX6_ownerOf 4 = .ok (.ifCond .eq 13, 3) := by decide +kernel
theorem dX6_ownerOf_7 : decode cX6_ownerOf 7 = .ok (.iload_n 2, 1) := by decide +kernel
theorem dX6_ownerOf_8 : decode cX6_ownerOf 8 = .ok (.iconst 0, 1) := by decide +kernel
theorem dX6_ownerOf_9 : decode cX6_ownerOf 9 = .ok (.bipush 8, 2) := by decide +kernel
theorem dX6_ownerOf_11 : decode cX6_ownerOf 11 = .ok (.invokestatic 58, 3) := by decide +kernel
theorem dX6_ownerOf_14 : decode cX6_ownerOf 14 = .ok (.ifCond .ne 5, 3) := by decide +kernel
theorem dX6_ownerOf_17 : decode cX6_ownerOf 17 = .ok (.iconst (-1), 1) := by decide +kernel
theorem dX6_ownerOf_18 : decode cX6_ownerOf 18 = .ok (.ireturn, 1) := by decide +kernel
theorem dX6_ownerOf_19 : decode cX6_ownerOf 19 = .ok (.iload_n 2, 1) := by decide +kernel
theorem dX6_ownerOf_20 : decode cX6_ownerOf 20 = .ok (.tableswitch 141 0 7 #[48, 58, 68, 80, 90, 102, 122, 131], 48) := by decide +kernel
theorem dX6_ownerOf_68 : decode cX6_ownerOf 68 = .ok (.aload_n 0, 1) := by decide +kernel
theorem dX6_ownerOf_69 : decode cX6_ownerOf 69 = .ok (.getfield 10, 3) := by decide +kernel
theorem dX6_ownerOf_72 : decode cX6_ownerOf 72 = .ok (.getfield 101, 3) := by decide +kernel
theorem dX6_ownerOf_75 : decode cX6_ownerOf 75 = .ok (.iload_n 1, 1) := by decide +kernel
theorem dX6_ownerOf_76 : decode cX6_ownerOf 76 = .ok (.iaload, 1) := by decide +kernel
theorem dX6_ownerOf_77 : decode cX6_ownerOf 77 = .ok (.ireturn, 1) := by decide +kernel
theorem dX6_ownerOf_78 : decode cX6_ownerOf 78 = .ok (.aload_n 0, 1) := by decide +kernel
theorem dX6_ownerOf_79 : decode cX6_ownerOf 79 = .ok (.getfield 10, 3) := by decide +kernel
theorem dX6_ownerOf_82 : decode cX6_ownerOf 82 = .ok (.getfield 104, 3) := by decide +kernel
theorem dX6_ownerOf_85 : decode cX6_ownerOf 85 = .ok (.iload_n 1, 1) := by decide +kernel
theorem dX6_ownerOf_86 : decode cX6_ownerOf 86 = .ok (.iaload, 1) := by decide +kernel
theorem dX6_ownerOf_87 : decode cX6_ownerOf 87 = .ok (.ireturn, 1) := by decide +kernel
theorem dX6_ownerOf_88 : decode cX6_ownerOf 88 = .ok (.aload_n 0, 1) := by decide +kernel
theorem dX6_ownerOf_89 : decode cX6_ownerOf 89 = .ok (.getfield 10, 3) := by decide +kernel
theorem dX6_ownerOf_92 : decode cX6_ownerOf 92 = .ok (.getfield 217, 3) := by decide +kernel
theorem dX6_ownerOf_95 : decode cX6_ownerOf 95 = .ok (.iload_n 1, 1) := by decide +kernel
theorem dX6_ownerOf_96 : decode cX6_ownerOf 96 = .ok (.invokestatic 174, 3) := by decide +kernel
theorem dX6_ownerOf_99 : decode cX6_ownerOf 99 = .ok (.ireturn, 1) := by decide +kernel
theorem dX6_ownerOf_100 : decode cX6_ownerOf 100 = .ok (.aload_n 0, 1) := by decide +kernel
theorem dX6_ownerOf_101 : decode cX6_ownerOf 101 = .ok (.getfield 10, 3) := by decide +kernel
theorem dX6_ownerOf_104 : decode cX6_ownerOf 104 = .ok (.getfield 220, 3) := by decide +kernel
theorem dX6_ownerOf_107 : decode cX6_ownerOf 107 = .ok (.iload_n 1, 1) := by decide +kernel
theorem dX6_ownerOf_108 : decode cX6_ownerOf 108 = .ok (.iaload, 1) := by decide +kernel
theorem dX6_ownerOf_109 : decode cX6_ownerOf 109 = .ok (.ireturn, 1) := by decide +kernel
theorem dX6_ownerOf_110 : decode cX6_ownerOf 110 = .ok (.aload_n 0, 1) := by decide +kernel
theorem dX6_ownerOf_111 : decode cX6_ownerOf 111 = .ok (.getfield 10, 3) := by decide +kernel
theorem dX6_ownerOf_114 : decode cX6_ownerOf 114 = .ok (.iload_n 1, 1) := by decide +kernel
theorem dX6_ownerOf_115 : decode cX6_ownerOf 115 = .ok (.invokevirtual 223, 3) := by decide +kernel
theorem dX6_ownerOf_118 : decode cX6_ownerOf 118 = .ok (.invokestatic 89, 3) := by decide +kernel
theorem dX6_ownerOf_121 : decode cX6_ownerOf 121 = .ok (.ireturn, 1) := by decide +kernel
theorem dX6_ownerOf_122 : decode cX6_ownerOf 122 = .ok (.aload_n 0, 1) := by decide +kernel
theorem dX6_ownerOf_123 : decode cX6_ownerOf 123 = .ok (.getfield 10, 3) := by decide +kernel
theorem dX6_ownerOf_126 : decode cX6_ownerOf 126 = .ok (.iload_n 1, 1) := by decide +kernel
theorem dX6_ownerOf_127 : decode cX6_ownerOf 127 = .ok (.invokevirtual 223, 3) := by decide +kernel
theorem dX6_ownerOf_130 : decode cX6_ownerOf 130 = .ok (.aload_n 0, 1) := by decide +kernel
theorem dX6_ownerOf_131 : decode cX6_ownerOf 131 = .ok (.getfield 10, 3) := by decide +kernel
theorem dX6_ownerOf_134 : decode cX6_ownerOf 134 = .ok (.invokevirtual 131, 3) := by decide +kernel
theorem dX6_ownerOf_137 : decode cX6_ownerOf 137 = .ok (.iand, 1) := by decide +kernel
theorem dX6_ownerOf_138 : decode cX6_ownerOf 138 = .ok (.invokestatic 89, 3) := by decide +kernel
theorem dX6_ownerOf_141 : decode cX6_ownerOf 141 = .ok (.ireturn, 1) := by decide +kernel
theorem dX6_ownerOf_142 : decode cX6_ownerOf 142 = .ok (.aload_n 0, 1) := by decide +kernel
theorem dX6_ownerOf_143 : decode cX6_ownerOf 143 = .ok (.getfield 10, 3) := by decide +kernel
theorem dX6_ownerOf_146 : decode cX6_ownerOf 146 = .ok (.iload_n 1, 1) := by decide +kernel
theorem dX6_ownerOf_147 : decode cX6_ownerOf 147 = .ok (.invokevirtual 226, 3) := by decide +kernel
theorem dX6_ownerOf_150 : decode cX6_ownerOf 150 = .ok (.ireturn, 1) := by decide +kernel
theorem dX6_ownerOf_151 : decode cX6_ownerOf 151 = .ok (.aload_n 0, 1) := by decide +kernel
theorem dX6_ownerOf_152 : decode cX6_ownerOf 152 = .ok (.getfield 10, 3) := by decide +kernel
theorem dX6_ownerOf_155 : decode cX6_ownerOf 155 = .ok (.getfield 229, 3) := by decide +kernel
theorem dX6_ownerOf_158 : decode cX6_ownerOf 158 = .ok (.iload_n 1, 1) := by decide +kernel
theorem dX6_ownerOf_159 : decode cX6_ownerOf 159 = .ok (.iaload, 1) := by decide +kernel
theorem dX6_ownerOf_160 : decode cX6_ownerOf 160 = .ok (.ireturn, 1) := by decide +kernel
theorem dX6_ownerOf_161 : decode cX6_ownerOf 161 = .ok (.aload_n 0, 1) := by decide +kernel
theorem dX6_ownerOf_162 : decode cX6_ownerOf 162 = .ok (.getfield 10, 3) := by decide +kernel
theorem dX6_ownerOf_165 : decode cX6_ownerOf 165 = .ok (.iload_n 1, 1) := by decide +kernel
theorem dX6_ownerOf_166 : decode cX6_ownerOf 166 = .ok (.invokevirtual 232, 3) := by decide +kernel
theorem dX6_ownerOf_169 : decode cX6_ownerOf 169 = .ok (.ireturn, 1) := by decide +kernel
theorem dX6_whyNotHang_0 : decode cX6_whyNotHang 0 = .ok (.iload_n 1, 1) := by decide +kernel
theorem dX6_whyNotHang_1 : decode cX6_whyNotHang 1 = .ok (.invokestatic 97, 3) := by decide +kernel
theorem dX6_whyNotHang_4 : decode cX6_whyNotHang 4 = .ok (.ifCond .eq 10, 3) := by decide +kernel
theorem dX6_whyNotHang_7 : decode cX6_whyNotHang 7 = .ok (.iload_n 2, 1) := by decide +kernel
theorem dX6_whyNotHang_8 : decode cX6_whyNotHang 8 = .ok (.invokestatic 52, 3) := by decide +kernel
theorem dX6_whyNotHang_11 : decode cX6_whyNotHang 11 = .ok (.ifCond .ne 5, 3) := by decide +kernel
theorem dX6_whyNotHang_14 : decode cX6_whyNotHang 14 = .ok (.iconst (-1), 1) := by decide +kernel
theorem dX6_whyNotHang_15 : decode cX6_whyNotHang 15 = .ok (.ireturn, 1) := by decide +kernel
theorem dX6_whyNotHang_16 : decode cX6_whyNotHang 16 = .ok (.aload_n 0, 1) := by decide +kernel
theorem dX6_whyNotHang_17 : decode cX6_whyNotHang 17 = .ok (.getfield 10, 3) := by decide +kernel
theorem dX6_whyNotHang_20 : decode cX6_whyNotHang 20 = .ok (.iload_n 1, 1) := by decide +kernel
theorem dX6_whyNotHang_21 : decode cX6_whyNotHang 21 = .ok (.iload_n 2, 1) := by decide +kernel
theorem dX6_whyNotHang_22 : decode cX6_whyNotHang 22 = .ok (.invokevirtual 235, 3) := by decide +kernel
theorem dX6_whyNotHang_25 : decode cX6_whyNotHang 25 = .ok (.ireturn, 1) := by decide +kernel
theorem dX6_strongest_0 : decode cX6_strongest 0 = .ok (.iload_n 1, 1) := by decide +kernel
theorem dX6_strongest_1 : decode cX6_strongest 1 = .ok (.invokestatic 78, 3) := by decide +kernel
theorem dX6_strongest_4 : decode cX6_strongest 4 = .ok (.ifCond .eq 19, 3) := by decide +kernel
theorem dX6_strongest_7 : decode cX6_strongest 7 = .ok (.iload_n 2, 1) := by decide +kernel
theorem dX6_strongest_8 : decode cX6_strongest 8 = .ok (.invokestatic 78, 3) := by decide +kernel
theorem dX6_strongest_11 : decode cX6_strongest 11 = .ok (.ifCond .eq 12, 3) := by decide +kernel
theorem dX6_strongest_14 : decode cX6_strongest 14 = .ok (.iload_n 3, 1) := by decide +kernel
theorem dX6_strongest_15 : decode cX6_strongest 15 = .ok (.iconst 0, 1) := by decide +kernel
theorem dX6_strongest_16 : decode cX6_strongest 16 = .ok (.iconst 1, 1) := by decide +kernel
theorem dX6_strongest_17 : decode cX6_strongest 17 = .ok (.invokestatic 58, 3) := by decide +kernel
theorem dX6_strongest_20 : decode cX6_strongest 20 = .ok (.ifCond .ne 5, 3) := by decide +kernel
theorem dX6_strongest_23 : decode cX6_strongest 23 = .ok (.iconst (-1), 1) := by decide +kernel
theorem dX6_strongest_24 : decode cX6_strongest 24 = .ok (.ireturn, 1) := by decide +kernel
theorem dX6_strongest_25 : decode cX6_strongest 25 = .ok (.iload_n 3, 1) := by decide +kernel
theorem dX6_strongest_26 : decode cX6_strongest 26 = .ok (.ifCond .ne 19, 3) := by decide +kernel
theorem dX6_strongest_29 : decode cX6_strongest 29 = .ok (.aload_n 0, 1) := by decide +kernel
theorem dX6_strongest_30 : decode cX6_strongest 30 = .ok (.getfield 32, 3) := by decide +kernel
theorem dX6_strongest_33 : decode cX6_strongest 33 = .ok (.aload_n 0, 1) := by decide +kernel
theorem dX6_strongest_34 : decode cX6_strongest 34 = .ok (.getfield 10, 3) := by decide +kernel
theorem dX6_strongest_37 : decode cX6_strongest 37 = .ok (.iload_n 1, 1) := by decide +kernel
theorem dX6_strongest_38 : decode cX6_strongest 38 = .ok (.iload_n 2, 1) := by decide +kernel
theorem dX6_strongest_39 : decode cX6_strongest 39 = .ok (.invokevirtual 238, 3) := by decide +kernel
theorem dX6_strongest_42 : decode cX6_strongest 42 = .ok (.goto 16, 3) := by decide +kernel
theorem dX6_strongest_45 : decode cX6_strongest 45 = .ok (.aload_n 0, 1) := by decide +kernel
theorem dX6_strongest_46 : decode cX6_strongest 46 = .ok (.getfield 32, 3) := by decide +kernel
theorem dX6_strongest_49 : decode cX6_strongest 49 = .ok (.aload_n 0, 1) := by decide +kernel
theorem dX6_strongest_50 : decode cX6_strongest 50 = .ok (.getfield 10, 3) := by decide +kernel
theorem dX6_strongest_53 : decode cX6_strongest 53 = .ok (.iload_n 1, 1) := by decide +kernel
theorem dX6_strongest_54 : decode cX6_strongest 54 = .ok (.iload_n 2, 1) := by decide +kernel
theorem dX6_strongest_55 : decode cX6_strongest 55 = .ok (.invokevirtual 242, 3) := by decide +kernel
theorem dX6_strongest_58 : decode cX6_strongest 58 = .ok (.ireturn, 1) := by decide +kernel
theorem dX6_steps_0 : decode cX6_steps 0 = .ok (.iload_n 1, 1) := by decide +kernel
theorem dX6_steps_1 : decode cX6_steps 1 = .ok (.invokestatic 97, 3) := by decide +kernel
theorem dX6_steps_4 : decode cX6_steps 4 = .ok (.ifCond .eq 10, 3) := by decide +kernel
theorem dX6_steps_7 : decode cX6_steps 7 = .ok (.iload_n 2, 1) := by decide +kernel
theorem dX6_steps_8 : decode cX6_steps 8 = .ok (.invokestatic 78, 3) := by decide +kernel
theorem dX6_steps_11 : decode cX6_steps 11 = .ok (.ifCond .ne 5, 3) := by decide +kernel
theorem dX6_steps_14 : decode cX6_steps 14 = .ok (.iconst (-1), 1) := by decide +kernel
theorem dX6_steps_15 : decode cX6_steps 15 = .ok (.ireturn, 1) := by decide +kernel
theorem dX6_steps_16 : decode cX6_steps 16 = .ok (.aload_n 0, 1) := by decide +kernel
theorem dX6_steps_17 : decode cX6_steps 17 = .ok (.getfield 32, 3) := by decide +kernel
theorem dX6_steps_20 : decode cX6_steps 20 = .ok (.aload_n 0, 1) := by decide +kernel
theorem dX6_steps_21 : decode cX6_steps 21 = .ok (.getfield 10, 3) := by decide +kernel
theorem dX6_steps_24 : decode cX6_steps 24 = .ok (.iload_n 1, 1) := by decide +kernel
theorem dX6_steps_25 : decode cX6_steps 25 = .ok (.iload_n 2, 1) := by decide +kernel
theorem dX6_steps_26 : decode cX6_steps 26 = .ok (.invokevirtual 245, 3) := by decide +kernel
theorem dX6_steps_29 : decode cX6_steps 29 = .ok (.ireturn, 1) := by decide +kernel
theorem dX6_count_0 : decode cX6_count 0 = .ok (.iload_n 1, 1) := by decide +kernel
theorem dX6_count_1 : decode cX6_count 1 = .ok (.iconst 0, 1) := by decide +kernel
theorem dX6_count_2 : decode cX6_count 2 = .ok (.bipush 17, 2) := by decide +kernel
theorem dX6_count_4 : decode cX6_count 4 = .ok (.invokestatic 58, 3) := by decide +kernel
theorem dX6_count_7 : decode cX6_count 7 = .ok (.ifCond .ne 5, 3) := by decide +kernel
theorem dX6_count_10 : decode cX6_count 10 = .ok (.iconst (-1), 1) := by decide +kernel
theorem dX6_count_11 : decode cX6_count 11 = .ok (.ireturn, 1) := by decide +kernel
theorem dX6_count_12 : decode cX6_count 12 = .ok (.iload_n 1, 1) := by decide +kernel
theorem dX6_count_13 : decode cX6_count 13 = .ok (.bipush 16, 2) := by decide +kernel
theorem dX6_count_15 : decode cX6_count 15 = .ok (.if_icmp .ne 11, 3) := by decide +kernel
theorem dX6_count_18 : decode cX6_count 18 = .ok (.aload_n 0, 1) := by decide +kernel
theorem dX6_count_19 : decode cX6_count 19 = .ok (.getfield 39, 3) := by decide +kernel
theorem dX6_count_22 : decode cX6_count 22 = .ok (.getfield 135, 3) := by decide +kernel
theorem dX6_count_25 : decode cX6_count 25 = .ok (.ireturn, 1) := by decide +kernel
theorem dX6_count_26 : decode cX6_count 26 = .ok (.iload_n 1, 1) := by decide +kernel
theorem dX6_count_27 : decode cX6_count 27 = .ok (.bipush 17, 2) := by decide +kernel
theorem dX6_count_29 : decode cX6_count 29 = .ok (.if_icmp .ne 11, 3) := by decide +kernel
theorem dX6_count_32 : decode cX6_count 32 = .ok (.aload_n 0, 1) := by decide +kernel
theorem dX6_count_33 : decode cX6_count 33 = .ok (.getfield 25, 3) := by decide +kernel
theorem dX6_count_36 : decode cX6_count 36 = .ok (.getfield 248, 3) := by decide +kernel
theorem dX6_count_39 : decode cX6_count 39 = .ok (.ireturn, 1) := by decide +kernel
theorem dX6_count_40 : decode cX6_count 40 = .ok (.iload_n 1, 1) := by decide +kernel
theorem dX6_count_41 : decode cX6_count 41 = .ok (.bipush 10, 2) := by decide +kernel
theorem dX6_count_43 : decode cX6_count 43 = .ok (.if_icmp .ge 14, 3) := by decide +kernel
theorem dX6_count_46 : decode cX6_count 46 = .ok (.aload_n 0, 1) := by decide +kernel
theorem dX6_count_47 : decode cX6_count 47 = .ok (.getfield 10, 3) := by decide +kernel
theorem dX6_count_50 : decode cX6_count 50 = .ok (.iload_n 1, 1) := by decide +kernel
theorem dX6_count_51 : decode cX6_count 51 = .ok (.invokevirtual 251, 3) := by decide +kernel
theorem dX6_count_54 : decode cX6_count 54 = .ok (.goto 11, 3) := by decide +kernel
theorem dX6_count_57 : decode cX6_count 57 = .ok (.aload_n 0, 1) := by decide +kernel
theorem dX6_count_58 : decode cX6_count 58 = .ok (.getfield 10, 3) := by decide +kernel
theorem dX6_count_61 : decode cX6_count 61 = .ok (.iload_n 1, 1) := by decide +kernel
theorem dX6_count_62 : decode cX6_count 62 = .ok (.invokevirtual 254, 3) := by decide +kernel
theorem dX6_count_65 : decode cX6_count 65 = .ok (.ireturn, 1) := by decide +kernel
theorem dX6_cleanness_0 : decode cX6_cleanness 0 = .ok (.aload_n 0, 1) := by decide +kernel
theorem dX6_cleanness_1 : decode cX6_cleanness 1 = .ok (.getfield 10, 3) := by decide +kernel
theorem dX6_cleanness_4 : decode cX6_cleanness 4 = .ok (.invokevirtual 189, 3) := by decide +kernel
theorem dX6_cleanness_7 : decode cX6_cleanness 7 = .ok (.invokestatic 89, 3) := by decide +kernel
theorem dX6_cleanness_10 : decode cX6_cleanness 10 = .ok (.istore_n 1, 1) := by decide +kernel
theorem dX6_cleanness_11 : decode cX6_cleanness 11 = .ok (.iload_n 1, 1) := by decide +kernel
theorem dX6_cleanness_12 : decode cX6_cleanness 12 = .ok (.ifCond .ne 5, 3) := by decide +kernel
theorem dX6_cleanness_15 : decode cX6_cleanness 15 = .ok (.dconst 1, 1) := by decide +kernel
theorem dX6_cleanness_16 : decode cX6_cleanness 16 = .ok (.dreturn, 1) := by decide +kernel
theorem dX6_cleanness_17 : decode cX6_cleanness 17 = .ok (.aload_n 0, 1) := by decide +kernel
theorem dX6_cleanness_18 : decode cX6_cleanness 18 = .ok (.getfield 10, 3) := by decide +kernel
theorem dX6_cleanness_21 : decode cX6_cleanness 21 = .ok (.invokevirtual 131, 3) := by decide +kernel
theorem dX6_cleanness_24 : decode cX6_cleanness 24 = .ok (.invokestatic 89, 3) := by decide +kernel
theorem dX6_cleanness_27 : decode cX6_cleanness 27 = .ok (.i2d, 1) := by decide +kernel
theorem dX6_cleanness_28 : decode cX6_cleanness 28 = .ok (.iload_n 1, 1) := by decide +kernel
theorem dX6_cleanness_29 : decode cX6_cleanness 29 = .ok (.i2d, 1) := by decide +kernel
theorem dX6_cleanness_30 : decode cX6_cleanness 30 = .ok (.ddiv, 1) := by decide +kernel
theorem dX6_cleanness_31 : decode cX6_cleanness 31 = .ok (.dreturn, 1) := by decide +kernel
theorem dX6_ifWind_0 : decode cX6_ifWind 0 = .ok (.iload_n 1, 1) := by decide +kernel
theorem dX6_ifWind_1 : decode cX6_ifWind 1 = .ok (.iconst 0, 1) := by decide +kernel
theorem dX6_ifWind_2 : decode cX6_ifWind 2 = .ok (.iconst 3, 1) := by decide +kernel
theorem dX6_ifWind_3 : decode cX6_ifWind 3 = .ok (.invokestatic 58, 3) := by decide +kernel
theorem dX6_ifWind_6 : decode cX6_ifWind 6 = .ok (.ifCond .ne 5, 3) := by decide +kernel
theorem dX6_ifWind_9 : decode cX6_ifWind 9 = .ok (.iconst (-1), 1) := by decide +kernel
theorem dX6_ifWind_10 : decode cX6_ifWind 10 = .ok (.ireturn, 1) := by decide +kernel
theorem dX6_ifWind_11 : decode cX6_ifWind 11 = .ok (.aload_n 0, 1) := by decide +kernel
theorem dX6_ifWind_12 : decode cX6_ifWind 12 = .ok (.getfield 10, 3) := by decide +kernel
theorem dX6_ifWind_15 : decode cX6_ifWind 15 = .ok (.iload_n 1, 1) := by decide +kernel
theorem dX6_ifWind_16 : decode cX6_ifWind 16 = .ok (.invokevirtual 257, 3) := by decide +kernel
theorem dX6_ifWind_19 : decode cX6_ifWind 19 = .ok (.ireturn, 1) := by decide +kernel
theorem dX6_bestWind_0 : decode cX6_bestWind 0 = .ok (.iconst 0, 1) := by decide +kernel
theorem dX6_bestWind_1 : decode cX6_bestWind 1 = .ok (.istore_n 1, 1) := by decide +kernel
theorem dX6_bestWind_2 : decode cX6_bestWind 2 = .ok (.iconst 1, 1) := by decide +kernel
theorem dX6_bestWind_3 : decode cX6_bestWind 3 = .ok (.istore_n 2, 1) := by decide +kernel
theorem dX6_bestWind_4 : decode cX6_bestWind 4 = .ok (.iload_n 2, 1) := by decide +kernel
theorem dX6_bestWind_5 : decode cX6_bestWind 5 = .ok (.iconst 4, 1) := by decide +kernel
theorem dX6_bestWind_6 : decode cX6_bestWind 6 = .ok (.if_icmp .ge 30, 3) := by decide +kernel
theorem dX6_bestWind_9 : decode cX6_bestWind 9 = .ok (.aload_n 0, 1) := by decide +kernel
theorem dX6_bestWind_10 : decode cX6_bestWind 10 = .ok (.getfield 10, 3) := by decide +kernel
theorem dX6_bestWind_13 : decode cX6_bestWind 13 = .ok (.iload_n 2, 1) := by decide +kernel
theorem dX6_bestWind_14 : decode cX6_bestWind 14 = .ok (.invokevirtual 257, 3) := by decide +kernel
theorem dX6_bestWind_17 : decode cX6_bestWind 17 = .ok (.aload_n 0, 1) := by decide +kernel
theorem dX6_bestWind_18 : decode cX6_bestWind 18 = .ok (.getfield 10, 3) := by decide +kernel
theorem dX6_bestWind_21 : decode cX6_bestWind 21 = .ok (.iload_n 1, 1) := by decide +kernel
theorem dX6_bestWind_22 : decode cX6_bestWind 22 = .ok (.invokevirtual 257, 3) := by decide +kernel
theorem dX6_bestWind_25 : decode cX6_bestWind 25 = .ok (.if_icmp .ge 5, 3) := by decide +kernel
theorem dX6_bestWind_28 : decode cX6_bestWind 28 = .ok (.iload_n 2, 1) := by decide +kernel
theorem dX6_bestWind_29 : decode cX6_bestWind 29 = .ok (.istore_n 1, 1) := by decide +kernel
theorem dX6_bestWind_30 : decode cX6_bestWind 30 = .ok (.iinc 2 1, 3) := by decide +kernel
theorem dX6_bestWind_33 : decode cX6_bestWind 33 = .ok (.goto (-29), 3) := by decide +kernel
theorem dX6_bestWind_36 : decode cX6_bestWind 36 = .ok (.iload_n 1, 1) := by decide +kernel
theorem dX6_bestWind_37 : decode cX6_bestWind 37 = .ok (.ireturn, 1) := by decide +kernel
theorem dX6_ifDays_0 : decode cX6_ifDays 0 = .ok (.iload_n 1, 1) := by decide +kernel
theorem dX6_ifDays_1 : decode cX6_ifDays 1 = .ok (.iconst 1, 1) := by decide +kernel
theorem dX6_ifDays_2 : decode cX6_ifDays 2 = .ok (.bipush 30, 2) := by decide +kernel
theorem dX6_ifDays_4 : decode cX6_ifDays 4 = .ok (.invokestatic 58, 3) := by decide +kernel
theorem dX6_ifDays_7 : decode cX6_ifDays 7 = .ok (.ifCond .eq 12, 3) := by decide +kernel
theorem dX6_ifDays_10 : decode cX6_ifDays 10 = .ok (.iload_n 2, 1) := by decide +kernel
theorem dX6_ifDays_11 : decode cX6_ifDays 11 = .ok (.iconst 0, 1) := by decide +kernel
theorem dX6_ifDays_12 : decode cX6_ifDays 12 = .ok (.iconst 3, 1) := by decide +kernel
theorem dX6_ifDays_13 : decode cX6_ifDays 13 = .ok (.invokestatic 58, 3) := by decide +kernel
theorem dX6_ifDays_16 : decode cX6_ifDays 16 = .ok (.ifCond .ne 5, 3) := by decide +kernel
theorem dX6_ifDays_19 : decode cX6_ifDays 19 = .ok (.iconst (-1), 1) := by decide +kernel
theorem dX6_ifDays_20 : decode cX6_ifDays 20 = .ok (.ireturn, 1) := by decide +kernel
theorem dX6_ifDays_21 : decode cX6_ifDays 21 = .ok (.aload_n 0, 1) := by decide +kernel
theorem dX6_ifDays_22 : decode cX6_ifDays 22 = .ok (.getfield 16, 3) := by decide +kernel
theorem dX6_ifDays_25 : decode cX6_ifDays 25 = .ok (.aload_n 0, 1) := by decide +kernel
theorem dX6_ifDays_26 : decode cX6_ifDays 26 = .ok (.getfield 10, 3) := by decide +kernel
theorem dX6_ifDays_29 : decode cX6_ifDays 29 = .ok (.invokevirtual 260, 3) := by decide +kernel
theorem dX6_ifDays_32 : decode cX6_ifDays 32 = .ok (.iconst 0, 1) := by decide +kernel
theorem dX6_ifDays_33 : decode cX6_ifDays 33 = .ok (.istore_n 3, 1) := by decide +kernel
theorem dX6_ifDays_34 : decode cX6_ifDays 34 = .ok (.iload_n 3, 1) := by decide +kernel
theorem dX6_ifDays_35 : decode cX6_ifDays 35 = .ok (.iload_n 1, 1) := by decide +kernel
theorem dX6_ifDays_36 : decode cX6_ifDays 36 = .ok (.if_icmp .ge 16, 3) := by decide +kernel
theorem dX6_ifDays_39 : decode cX6_ifDays 39 = .ok (.aload_n 0, 1) := by decide +kernel
theorem dX6_ifDays_40 : decode cX6_ifDays 40 = .ok (.getfield 16, 3) := by decide +kernel
theorem dX6_ifDays_43 : decode cX6_ifDays 43 = .ok (.invokevirtual 128, 3) := by decide +kernel
theorem dX6_ifDays_46 : decode cX6_ifDays 46 = .ok (.iinc 3 1, 3) := by decide +kernel
theorem dX6_ifDays_49 : decode cX6_ifDays 49 = .ok (.goto (-15), 3) := by decide +kernel
theorem dX6_ifDays_52 : decode cX6_ifDays 52 = .ok (.iload_n 2, 1) := by decide +kernel
theorem dX6_ifDays_53 : decode cX6_ifDays 53 = .ok (.tableswitch 68 0 2 #[27, 38, 53], 27) := by decide +kernel
theorem dX6_ifDays_80 : decode cX6_ifDays 80 = .ok (.aload_n 0, 1) := by decide +kernel
theorem dX6_ifDays_81 : decode cX6_ifDays 81 = .ok (.getfield 16, 3) := by decide +kernel
theorem dX6_ifDays_84 : decode cX6_ifDays 84 = .ok (.invokevirtual 131, 3) := by decide +kernel
theorem dX6_ifDays_87 : decode cX6_ifDays 87 = .ok (.invokestatic 89, 3) := by decide +kernel
theorem dX6_ifDays_90 : decode cX6_ifDays 90 = .ok (.ireturn, 1) := by decide +kernel
theorem dX6_ifDays_91 : decode cX6_ifDays 91 = .ok (.aload_n 0, 1) := by decide +kernel
theorem dX6_ifDays_92 : decode cX6_ifDays 92 = .ok (.getfield 16, 3) := by decide +kernel
theorem dX6_ifDays_95 : decode cX6_ifDays 95 = .ok (.aload_n 0, 1) := by decide +kernel
theorem dX6_ifDays_96 : decode cX6_ifDays 96 = .ok (.getfield 16, 3) := by decide +kernel
theorem dX6_ifDays_99 : decode cX6_ifDays 99 = .ok (.getfield 208, 3) := by decide +kernel
theorem dX6_ifDays_102 : decode cX6_ifDays 102 = .ok (.invokevirtual 263, 3) := by decide +kernel
theorem dX6_ifDays_105 : decode cX6_ifDays 105 = .ok (.ireturn, 1) := by decide +kernel
theorem dX6_ifDays_106 : decode cX6_ifDays 106 = .ok (.aload_n 0, 1) := by decide +kernel
theorem dX6_ifDays_107 : decode cX6_ifDays 107 = .ok (.getfield 16, 3) := by decide +kernel
theorem dX6_ifDays_110 : decode cX6_ifDays 110 = .ok (.aload_n 0, 1) := by decide +kernel
theorem dX6_ifDays_111 : decode cX6_ifDays 111 = .ok (.getfield 16, 3) := by decide +kernel
theorem dX6_ifDays_114 : decode cX6_ifDays 114 = .ok (.getfield 211, 3) := by decide +kernel
theorem dX6_ifDays_117 : decode cX6_ifDays 117 = .ok (.invokevirtual 263, 3) := by decide +kernel
theorem dX6_ifDays_120 : decode cX6_ifDays 120 = .ok (.ireturn, 1) := by decide +kernel
theorem dX6_ifDays_121 : decode cX6_ifDays 121 = .ok (.aload_n 0, 1) := by decide +kernel
theorem dX6_ifDays_122 : decode cX6_ifDays 122 = .ok (.getfield 16, 3) := by decide +kernel
theorem dX6_ifDays_125 : decode cX6_ifDays 125 = .ok (.getfield 74, 3) := by decide +kernel
theorem dX6_ifDays_128 : decode cX6_ifDays 128 = .ok (.ireturn, 1) := by decide +kernel
theorem dX6_bestPlace_0 : decode cX6_bestPlace 0 = .ok (.iload_n 1, 1) := by decide +kernel
theorem dX6_bestPlace_1 : decode cX6_bestPlace 1 = .ok (.invokestatic 97, 3) := by decide +kernel
theorem dX6_bestPlace_4 : decode cX6_bestPlace 4 = .ok (.ifCond .ne 5, 3) := by decide +kernel
theorem dX6_bestPlace_7 : decode cX6_bestPlace 7 = .ok (.iconst (-1), 1) := by decide +kernel
theorem dX6_bestPlace_8 : decode cX6_bestPlace 8 = .ok (.ireturn, 1) := by decide +kernel
theorem dX6_bestPlace_9 : decode cX6_bestPlace 9 = .ok (.bipush (-4), 2) := by decide +kernel
theorem dX6_bestPlace_11 : decode cX6_bestPlace 11 = .ok (.istore_n 2, 1) := by decide +kernel
theorem dX6_bestPlace_12 : decode cX6_bestPlace 12 = .ok (.iconst 5, 1) := by decide +kernel
theorem dX6_bestPlace_13 : decode cX6_bestPlace 13 = .ok (.istore_n 3, 1) := by decide +kernel
theorem dX6_bestPlace_14 : decode cX6_bestPlace 14 = .ok (.iconst 0, 1) := by decide +kernel
theorem dX6_bestPlace_15 : decode cX6_bestPlace 15 = .ok (.istore 4, 2) := by decide +kernel
theorem dX6_bestPlace_17 : decode cX6_bestPlace 17 = .ok (.iload 4, 2) := by decide +kernel
theorem dX6_bestPlace_19 : decode cX6_bestPlace 19 = .ok (.bipush 28, 2) := by decide +kernel
theorem dX6_bestPlace_21 : decode cX6_bestPlace 21 = .ok (.if_icmp .ge 45, 3) := by decide +kernel
theorem dX6_bestPlace_24 : decode cX6_bestPlace 24 = .ok (.aload_n 0, 1) := by decide +kernel
theorem dX6_bestPlace_25 : decode cX6_bestPlace 25 = .ok (.getfield 10, 3) := by decide +kernel
theorem dX6_bestPlace_28 : decode cX6_bestPlace 28 = .ok (.iload_n 1, 1) := by decide +kernel
theorem dX6_bestPlace_29 : decode cX6_bestPlace 29 = .ok (.iload 4, 2) := by decide +kernel
theorem dX6_bestPlace_31 : decode cX6_bestPlace 31 = .ok (.invokevirtual 235, 3) := by decide +kernel
theorem dX6_bestPlace_34 : decode cX6_bestPlace 34 = .ok (.ifCond .ne 26, 3) := by decide +kernel
theorem dX6_bestPlace_37 : decode cX6_bestPlace 37 = .ok (.aload_n 0, 1) := by decide +kernel
theorem dX6_bestPlace_38 : decode cX6_bestPlace 38 = .ok (.getfield 10, 3) := by decide +kernel
theorem dX6_bestPlace_41 : decode cX6_bestPlace 41 = .ok (.iload 4, 2) := by decide +kernel
theorem dX6_bestPlace_43 : decode cX6_bestPlace 43 = .ok (.invokevirtual 267, 3) := by decide +kernel
theorem dX6_bestPlace_46 : decode cX6_bestPlace 46 = .ok (.istore 5, 2) := by decide +kernel
theorem dX6_bestPlace_48 : decode cX6_bestPlace 48 = .ok (.iload 5, 2) := by decide +kernel
theorem dX6_bestPlace_50 : decode cX6_bestPlace 50 = .ok (.iload_n 3, 1) := by decide +kernel
theorem dX6_bestPlace_51 : decode cX6_bestPlace 51 = .ok (.if_icmp .ge 9, 3) := by decide +kernel
theorem dX6_bestPlace_54 : decode cX6_bestPlace 54 = .ok (.iload 5, 2) := by decide +kernel
theorem dX6_bestPlace_56 : decode cX6_bestPlace 56 = .ok (.istore_n 3, 1) := by decide +kernel
theorem dX6_bestPlace_57 : decode cX6_bestPlace 57 = .ok (.iload 4, 2) := by decide +kernel
theorem dX6_bestPlace_59 : decode cX6_bestPlace 59 = .ok (.istore_n 2, 1) := by decide +kernel
theorem dX6_bestPlace_60 : decode cX6_bestPlace 60 = .ok (.iinc 4 1, 3) := by decide +kernel
theorem dX6_bestPlace_63 : decode cX6_bestPlace 63 = .ok (.goto (-46), 3) := by decide +kernel
theorem dX6_bestPlace_66 : decode cX6_bestPlace 66 = .ok (.iload_n 2, 1) := by decide +kernel
theorem dX6_bestPlace_67 : decode cX6_bestPlace 67 = .ok (.ireturn, 1) := by decide +kernel
theorem dX6_undo_0 : decode cX6_undo 0 = .ok (.aload_n 0, 1) := by decide +kernel
theorem dX6_undo_1 : decode cX6_undo 1 = .ok (.getfield 25, 3) := by decide +kernel
theorem dX6_undo_4 : decode cX6_undo 4 = .ok (.getfield 248, 3) := by decide +kernel
theorem dX6_undo_7 : decode cX6_undo 7 = .ok (.ifCond .ne 6, 3) := by decide +kernel
theorem dX6_undo_10 : decode cX6_undo 10 = .ok (.bipush (-2), 2) := by decide +kernel
theorem dX6_undo_12 : decode cX6_undo 12 = .ok (.ireturn, 1) := by decide +kernel
theorem dX6_undo_13 : decode cX6_undo 13 = .ok (.aload_n 0, 1) := by decide +kernel
theorem dX6_undo_14 : decode cX6_undo 14 = .ok (.getfield 25, 3) := by decide +kernel
theorem dX6_undo_17 : decode cX6_undo 17 = .ok (.aload_n 0, 1) := by decide +kernel
theorem dX6_undo_18 : decode cX6_undo 18 = .ok (.getfield 10, 3) := by decide +kernel
theorem dX6_undo_21 : decode cX6_undo 21 = .ok (.invokevirtual 270, 3) := by decide +kernel
theorem dX6_undo_24 : decode cX6_undo 24 = .ok (.aload_n 0, 1) := by decide +kernel
theorem dX6_undo_25 : decode cX6_undo 25 = .ok (.getfield 25, 3) := by decide +kernel
theorem dX6_undo_28 : decode cX6_undo 28 = .ok (.getfield 248, 3) := by decide +kernel
theorem dX6_undo_31 : decode cX6_undo 31 = .ok (.ireturn, 1) := by decide +kernel
theorem dX6_save_0 : decode cX6_save 0 = .ok (.aload_n 0, 1) := by decide +kernel
theorem dX6_save_1 : decode cX6_save 1 = .ok (.getfield 19, 3) := by decide +kernel
theorem dX6_save_4 : decode cX6_save 4 = .ok (.aload_n 0, 1) := by decide +kernel
theorem dX6_save_5 : decode cX6_save 5 = .ok (.getfield 10, 3) := by decide +kernel
theorem dX6_save_8 : decode cX6_save 8 = .ok (.invokevirtual 260, 3) := by decide +kernel
theorem dX6_save_11 : decode cX6_save 11 = .ok (.aload_n 0, 1) := by decide +kernel
theorem dX6_save_12 : decode cX6_save 12 = .ok (.iconst 1, 1) := by decide +kernel
theorem dX6_save_13 : decode cX6_save 13 = .ok (.putfield 273, 3) := by decide +kernel
theorem dX6_save_16 : decode cX6_save 16 = .ok (.aload_n 0, 1) := by decide +kernel
theorem dX6_save_17 : decode cX6_save 17 = .ok (.getfield 10, 3) := by decide +kernel
theorem dX6_save_20 : decode cX6_save 20 = .ok (.invokevirtual 189, 3) := by decide +kernel
theorem dX6_save_23 : decode cX6_save 23 = .ok (.invokestatic 89, 3) := by decide +kernel
theorem dX6_save_26 : decode cX6_save 26 = .ok (.ireturn, 1) := by decide +kernel
theorem dX6_restore_0 : decode cX6_restore 0 = .ok (.aload_n 0, 1) := by decide +kernel
theorem dX6_restore_1 : decode cX6_restore 1 = .ok (.getfield 273, 3) := by decide +kernel
theorem dX6_restore_4 : decode cX6_restore 4 = .ok (.ifCond .ne 6, 3) := by decide +kernel
theorem dX6_restore_7 : decode cX6_restore 7 = .ok (.bipush (-2), 2) := by decide +kernel
theorem dX6_restore_9 : decode cX6_restore 9 = .ok (.ireturn, 1) := by decide +kernel
theorem dX6_restore_10 : decode cX6_restore 10 = .ok (.aload_n 0, 1) := by decide +kernel
theorem dX6_restore_11 : decode cX6_restore 11 = .ok (.getfield 25, 3) := by decide +kernel
theorem dX6_restore_14 : decode cX6_restore 14 = .ok (.aload_n 0, 1) := by decide +kernel
theorem dX6_restore_15 : decode cX6_restore 15 = .ok (.getfield 10, 3) := by decide +kernel
theorem dX6_restore_18 : decode cX6_restore 18 = .ok (.invokevirtual 62, 3) := by decide +kernel
theorem dX6_restore_21 : decode cX6_restore 21 = .ok (.aload_n 0, 1) := by decide +kernel
theorem dX6_restore_22 : decode cX6_restore 22 = .ok (.getfield 10, 3) := by decide +kernel
theorem dX6_restore_25 : decode cX6_restore 25 = .ok (.aload_n 0, 1) := by decide +kernel
theorem dX6_restore_26 : decode cX6_restore 26 = .ok (.getfield 19, 3) := by decide +kernel
theorem dX6_restore_29 : decode cX6_restore 29 = .ok (.invokevirtual 260, 3) := by decide +kernel
theorem dX6_restore_32 : decode cX6_restore 32 = .ok (.aload_n 0, 1) := by decide +kernel
theorem dX6_restore_33 : decode cX6_restore 33 = .ok (.getfield 10, 3) := by decide +kernel
theorem dX6_restore_36 : decode cX6_restore 36 = .ok (.invokevirtual 189, 3) := by decide +kernel
theorem dX6_restore_39 : decode cX6_restore 39 = .ok (.invokestatic 89, 3) := by decide +kernel
theorem dX6_restore_42 : decode cX6_restore 42 = .ok (.ireturn, 1) := by decide +kernel
theorem dX6_keepStop_0 : decode cX6_keepStop 0 = .ok (.aload_n 0, 1) := by decide +kernel
theorem dX6_keepStop_1 : decode cX6_keepStop 1 = .ok (.iconst 1, 1) := by decide +kernel
theorem dX6_keepStop_2 : decode cX6_keepStop 2 = .ok (.putfield 145, 3) := by decide +kernel
theorem dX6_keepStop_5 : decode cX6_keepStop 5 = .ok (.aload_n 0, 1) := by decide +kernel
theorem dX6_keepStop_6 : decode cX6_keepStop 6 = .ok (.iload_n 1, 1) := by decide +kernel
theorem dX6_keepStop_7 : decode cX6_keepStop 7 = .ok (.putfield 162, 3) := by decide +kernel
theorem dX6_keepStop_10 : decode cX6_keepStop 10 = .ok (.aload_n 0, 1) := by decide +kernel
theorem dX6_keepStop_11 : decode cX6_keepStop 11 = .ok (.iload_n 2, 1) := by decide +kernel
theorem dX6_keepStop_12 : decode cX6_keepStop 12 = .ok (.putfield 165, 3) := by decide +kernel
theorem dX6_keepStop_15 : decode cX6_keepStop 15 = .ok (.aload_n 0, 1) := by decide +kernel
theorem dX6_keepStop_16 : decode cX6_keepStop 16 = .ok (.aload_n 0, 1) := by decide +kernel
theorem dX6_keepStop_17 : decode cX6_keepStop 17 = .ok (.getfield 48, 3) := by decide +kernel
theorem dX6_keepStop_20 : decode cX6_keepStop 20 = .ok (.getfield 276, 3) := by decide +kernel
theorem dX6_keepStop_23 : decode cX6_keepStop 23 = .ok (.putfield 168, 3) := by decide +kernel
theorem dX6_keepStop_26 : decode cX6_keepStop 26 = .ok (.return_, 1) := by decide +kernel
theorem dX6_carryOutOrder_0 : decode cX6_carryOutOrder 0 = .ok (.aload_n 0, 1) := by decide +kernel
theorem dX6_carryOutOrder_1 : decode cX6_carryOutOrder 1 = .ok (.getfield 48, 3) := by decide +kernel
theorem dX6_carryOutOrder_4 : decode cX6_carryOutOrder 4 = .ok (.getfield 279, 3) := by decide +kernel
theorem dX6_carryOutOrder_7 : decode cX6_carryOutOrder 7 = .ok (.lookupswitch 159 #[(99, 143), (104, 41), (116, 66), (119, 91)], 41) := by decide +kernel
theorem dX6_carryOutOrder_48 : decode cX6_carryOutOrder 48 = .ok (.aload_n 0, 1) := by decide +kernel
theorem dX6_carryOutOrder_49 : decode cX6_carryOutOrder 49 = .ok (.getfield 10, 3) := by decide +kernel
theorem dX6_carryOutOrder_52 : decode cX6_carryOutOrder 52 = .ok (.aload_n 0, 1) := by decide +kernel
theorem dX6_carryOutOrder_53 : decode cX6_carryOutOrder 53 = .ok (.getfield 48, 3) := by decide +kernel
theorem dX6_carryOutOrder_56 : decode cX6_carryOutOrder 56 = .ok (.getfield 283, 3) := by decide +kernel
theorem dX6_carryOutOrder_59 : decode cX6_carryOutOrder 59 = .ok (.aload_n 0, 1) := by decide +kernel
theorem dX6_carryOutOrder_60 : decode cX6_carryOutOrder 60 = .ok (.getfield 48, 3) := by decide +kernel
theorem dX6_carryOutOrder_63 : decode cX6_carryOutOrder 63 = .ok (.getfield 286, 3) := by decide +kernel
theorem dX6_carryOutOrder_66 : decode cX6_carryOutOrder 66 = .ok (.invokevirtual 114, 3) := by decide +kernel
theorem dX6_carryOutOrder_69 : decode cX6_carryOutOrder 69 = .ok (.invokestatic 289, 3) := by decide +kernel
theorem dX6_carryOutOrder_72 : decode cX6_carryOutOrder 72 = .ok (.ireturn, 1) := by decide +kernel
theorem dX6_carryOutOrder_73 : decode cX6_carryOutOrder 73 = .ok (.aload_n 0, 1) := by decide +kernel
theorem dX6_carryOutOrder_74 : decode cX6_carryOutOrder 74 = .ok (.getfield 10, 3) := by decide +kernel
theorem dX6_carryOutOrder_77 : decode cX6_carryOutOrder 77 = .ok (.aload_n 0, 1) := by decide +kernel
theorem dX6_carryOutOrder_78 : decode cX6_carryOutOrder 78 = .ok (.getfield 48, 3) := by decide +kernel
theorem dX6_carryOutOrder_81 : decode cX6_carryOutOrder 81 = .ok (.getfield 283, 3) := by decide +kernel
theorem dX6_carryOutOrder_84 : decode cX6_carryOutOrder 84 = .ok (.aload_n 0, 1) := by decide +kernel
theorem dX6_carryOutOrder_85 : decode cX6_carryOutOrder 85 = .ok (.getfield 48, 3) := by decide +kernel
theorem dX6_carryOutOrder_88 : decode cX6_carryOutOrder 88 = .ok (.getfield 286, 3) := by decide +kernel
theorem dX6_carryOutOrder_91 : decode cX6_carryOutOrder 91 = .ok (.invokevirtual 118, 3) := by decide +kernel
theorem dX6_carryOutOrder_94 : decode cX6_carryOutOrder 94 = .ok (.invokestatic 289, 3) := by decide +kernel
theorem dX6_carryOutOrder_97 : decode cX6_carryOutOrder 97 = .ok (.ireturn, 1) := by decide +kernel
theorem dX6_carryOutOrder_98 : decode cX6_carryOutOrder 98 = .ok (.aload_n 0, 1) := by decide +kernel
theorem dX6_carryOutOrder_99 : decode cX6_carryOutOrder 99 = .ok (.getfield 10, 3) := by decide +kernel
theorem dX6_carryOutOrder_102 : decode cX6_carryOutOrder 102 = .ok (.aload_n 0, 1) := by decide +kernel
theorem dX6_carryOutOrder_103 : decode cX6_carryOutOrder 103 = .ok (.getfield 48, 3) := by decide +kernel
theorem dX6_carryOutOrder_106 : decode cX6_carryOutOrder 106 = .ok (.getfield 283, 3) := by decide +kernel
theorem dX6_carryOutOrder_109 : decode cX6_carryOutOrder 109 = .ok (.aload_n 0, 1) := by decide +kernel
theorem dX6_carryOutOrder_110 : decode cX6_carryOutOrder 110 = .ok (.getfield 48, 3) := by decide +kernel
theorem dX6_carryOutOrder_113 : decode cX6_carryOutOrder 113 = .ok (.getfield 286, 3) := by decide +kernel
theorem dX6_carryOutOrder_116 : decode cX6_carryOutOrder 116 = .ok (.invokevirtual 121, 3) := by decide +kernel
theorem dX6_carryOutOrder_119 : decode cX6_carryOutOrder 119 = .ok (.ifCond .ne 6, 3) := by decide +kernel
theorem dX6_carryOutOrder_122 : decode cX6_carryOutOrder 122 = .ok (.bipush (-2), 2) := by decide +kernel
theorem dX6_carryOutOrder_124 : decode cX6_carryOutOrder 124 = .ok (.ireturn, 1) := by decide +kernel
theorem dX6_carryOutOrder_125 : decode cX6_carryOutOrder 125 = .ok (.aload_n 0, 1) := by decide +kernel
theorem dX6_carryOutOrder_126 : decode cX6_carryOutOrder 126 = .ok (.getfield 10, 3) := by decide +kernel
theorem dX6_carryOutOrder_129 : decode cX6_carryOutOrder 129 = .ok (.aload_n 0, 1) := by decide +kernel
theorem dX6_carryOutOrder_130 : decode cX6_carryOutOrder 130 = .ok (.getfield 48, 3) := by decide +kernel
theorem dX6_carryOutOrder_133 : decode cX6_carryOutOrder 133 = .ok (.getfield 283, 3) := by decide +kernel
theorem dX6_carryOutOrder_136 : decode cX6_carryOutOrder 136 = .ok (.aload_n 0, 1) := by decide +kernel
theorem dX6_carryOutOrder_137 : decode cX6_carryOutOrder 137 = .ok (.getfield 48, 3) := by decide +kernel
theorem dX6_carryOutOrder_140 : decode cX6_carryOutOrder 140 = .ok (.getfield 286, 3) := by decide +kernel
theorem dX6_carryOutOrder_143 : decode cX6_carryOutOrder 143 = .ok (.invokevirtual 125, 3) := by decide +kernel
theorem dX6_carryOutOrder_146 : decode cX6_carryOutOrder 146 = .ok (.invokestatic 289, 3) := by decide +kernel
theorem dX6_carryOutOrder_149 : decode cX6_carryOutOrder 149 = .ok (.ireturn, 1) := by decide +kernel
theorem dX6_carryOutOrder_150 : decode cX6_carryOutOrder 150 = .ok (.aload_n 0, 1) := by decide +kernel
theorem dX6_carryOutOrder_151 : decode cX6_carryOutOrder 151 = .ok (.getfield 10, 3) := by decide +kernel
theorem dX6_carryOutOrder_154 : decode cX6_carryOutOrder 154 = .ok (.aload_n 0, 1) := by decide +kernel
theorem dX6_carryOutOrder_155 : decode cX6_carryOutOrder 155 = .ok (.getfield 48, 3) := by decide +kernel
theorem dX6_carryOutOrder_158 : decode cX6_carryOutOrder 158 = .ok (.getfield 286, 3) := by decide +kernel
theorem dX6_carryOutOrder_161 : decode cX6_carryOutOrder 161 = .ok (.invokevirtual 81, 3) := by decide +kernel
theorem dX6_carryOutOrder_164 : decode cX6_carryOutOrder 164 = .ok (.iconst 0, 1) := by decide +kernel
theorem dX6_carryOutOrder_165 : decode cX6_carryOutOrder 165 = .ok (.ireturn, 1) := by decide +kernel
theorem dX6_carryOutOrder_166 : decode cX6_carryOutOrder 166 = .ok (.aload_n 0, 1) := by decide +kernel
theorem dX6_carryOutOrder_167 : decode cX6_carryOutOrder 167 = .ok (.getfield 10, 3) := by decide +kernel
theorem dX6_carryOutOrder_170 : decode cX6_carryOutOrder 170 = .ok (.invokevirtual 128, 3) := by decide +kernel
theorem dX6_carryOutOrder_173 : decode cX6_carryOutOrder 173 = .ok (.iconst 0, 1) := by decide +kernel
theorem dX6_carryOutOrder_174 : decode cX6_carryOutOrder 174 = .ok (.ireturn, 1) := by decide +kernel
theorem dX6_causeIn_0 : decode cX6_causeIn 0 = .ok (.iload_n 0, 1) := by decide +kernel
theorem dX6_causeIn_1 : decode cX6_causeIn 1 = .ok (.bipush 10, 2) := by decide +kernel
theorem dX6_causeIn_3 : decode cX6_causeIn 3 = .ok (.if_icmp .lt 7, 3) := by decide +kernel
theorem dX6_causeIn_6 : decode cX6_causeIn 6 = .ok (.iconst 0, 1) := by decide +kernel
theorem dX6_causeIn_7 : decode cX6_causeIn 7 = .ok (.goto 4, 3) := by decide +kernel
theorem dX6_causeIn_10 : decode cX6_causeIn 10 = .ok (.iload_n 0, 1) := by decide +kernel
theorem dX6_causeIn_11 : decode cX6_causeIn 11 = .ok (.ireturn, 1) := by decide +kernel
theorem dX6_isWithin_0 : decode cX6_isWithin 0 = .ok (.iload_n 0, 1) := by decide +kernel
theorem dX6_isWithin_1 : decode cX6_isWithin 1 = .ok (.iload_n 1, 1) := by decide +kernel
theorem dX6_isWithin_2 : decode cX6_isWithin 2 = .ok (.if_icmp .lt 12, 3) := by decide +kernel
theorem dX6_isWithin_5 : decode cX6_isWithin 5 = .ok (.iload_n 0, 1) := by decide +kernel
theorem dX6_isWithin_6 : decode cX6_isWithin 6 = .ok (.iload_n 2, 1) := by decide +kernel
theorem dX6_isWithin_7 : decode cX6_isWithin 7 = .ok (.if_icmp .gt 7, 3) := by decide +kernel
theorem dX6_isWithin_10 : decode cX6_isWithin 10 = .ok (.iconst 1, 1) := by decide +kernel
theorem dX6_isWithin_11 : decode cX6_isWithin 11 = .ok (.goto 4, 3) := by decide +kernel
theorem dX6_isWithin_14 : decode cX6_isWithin 14 = .ok (.iconst 0, 1) := by decide +kernel
theorem dX6_isWithin_15 : decode cX6_isWithin 15 = .ok (.ireturn, 1) := by decide +kernel
theorem dX6_isRoof_0 : decode cX6_isRoof 0 = .ok (.iload_n 0, 1) := by decide +kernel
theorem dX6_isRoof_1 : decode cX6_isRoof 1 = .ok (.iconst 0, 1) := by decide +kernel
theorem dX6_isRoof_2 : decode cX6_isRoof 2 = .ok (.bipush 15, 2) := by decide +kernel
theorem dX6_isRoof_4 : decode cX6_isRoof 4 = .ok (.invokestatic 58, 3) := by decide +kernel
theorem dX6_isRoof_7 : decode cX6_isRoof 7 = .ok (.ireturn, 1) := by decide +kernel
theorem dX6_isOwner_0 : decode cX6_isOwner 0 = .ok (.iload_n 0, 1) := by decide +kernel
theorem dX6_isOwner_1 : decode cX6_isOwner 1 = .ok (.iconst 0, 1) := by decide +kernel
theorem dX6_isOwner_2 : decode cX6_isOwner 2 = .ok (.iconst 3, 1) := by decide +kernel
theorem dX6_isOwner_3 : decode cX6_isOwner 3 = .ok (.invokestatic 58, 3) := by decide +kernel
theorem dX6_isOwner_6 : decode cX6_isOwner 6 = .ok (.ireturn, 1) := by decide +kernel
theorem dX6_bitOf_0 : decode cX6_bitOf 0 = .ok (.iload_n 0, 1) := by decide +kernel
theorem dX6_bitOf_1 : decode cX6_bitOf 1 = .ok (.iload_n 1, 1) := by decide +kernel
theorem dX6_bitOf_2 : decode cX6_bitOf 2 = .ok (.ishr, 1) := by decide +kernel
theorem dX6_bitOf_3 : decode cX6_bitOf 3 = .ok (.iconst 1, 1) := by decide +kernel
theorem dX6_bitOf_4 : decode cX6_bitOf 4 = .ok (.iand, 1) := by decide +kernel
theorem dX6_bitOf_5 : decode cX6_bitOf 5 = .ok (.ireturn, 1) := by decide +kernel
theorem dX6_isIn_0 : decode cX6_isIn 0 = .ok (.iload_n 0, 1) := by decide +kernel
theorem dX6_isIn_1 : decode cX6_isIn 1 = .ok (.iload_n 1, 1) := by decide +kernel
theorem dX6_isIn_2 : decode cX6_isIn 2 = .ok (.ishr, 1) := by decide +kernel
theorem dX6_isIn_3 : decode cX6_isIn 3 = .ok (.iconst 1, 1) := by decide +kernel
theorem dX6_isIn_4 : decode cX6_isIn 4 = .ok (.iand, 1) := by decide +kernel
theorem dX6_isIn_5 : decode cX6_isIn 5 = .ok (.iconst 1, 1) := by decide +kernel
theorem dX6_isIn_6 : decode cX6_isIn 6 = .ok (.if_icmp .ne 7, 3) := by decide +kernel
theorem dX6_isIn_9 : decode cX6_isIn 9 = .ok (.iconst 1, 1) := by decide +kernel
theorem dX6_isIn_10 : decode cX6_isIn 10 = .ok (.goto 4, 3) := by decide +kernel
theorem dX6_isIn_13 : decode cX6_isIn 13 = .ok (.iconst 0, 1) := by decide +kernel
theorem dX6_isIn_14 : decode cX6_isIn 14 = .ok (.ireturn, 1) := by decide +kernel
theorem dJ6_bitCount_0f7a4_0 : decode cJ6_bitCount_0f7a4 0 = .ok (.iload_n 0, 1) := by decide +kernel
theorem dJ6_bitCount_0f7a4_1 : decode cJ6_bitCount_0f7a4 1 = .ok (.iload_n 0, 1) := by decide +kernel
theorem dJ6_bitCount_0f7a4_2 : decode cJ6_bitCount_0f7a4 2 = .ok (.iconst 1, 1) := by decide +kernel
theorem dJ6_bitCount_0f7a4_3 : decode cJ6_bitCount_0f7a4 3 = .ok (.iushr, 1) := by decide +kernel
theorem dJ6_bitCount_0f7a4_4 : decode cJ6_bitCount_0f7a4 4 = .ok (.ldc_w 265, 3) := by decide +kernel
theorem dJ6_bitCount_0f7a4_7 : decode cJ6_bitCount_0f7a4 7 = .ok (.iand, 1) := by decide +kernel
theorem dJ6_bitCount_0f7a4_8 : decode cJ6_bitCount_0f7a4 8 = .ok (.isub, 1) := by decide +kernel
theorem dJ6_bitCount_0f7a4_9 : decode cJ6_bitCount_0f7a4 9 = .ok (.istore_n 0, 1) := by decide +kernel
theorem dJ6_bitCount_0f7a4_10 : decode cJ6_bitCount_0f7a4 10 = .ok (.iload_n 0, 1) := by decide +kernel
theorem dJ6_bitCount_0f7a4_11 : decode cJ6_bitCount_0f7a4 11 = .ok (.ldc_w 266, 3) := by decide +kernel
theorem dJ6_bitCount_0f7a4_14 : decode cJ6_bitCount_0f7a4 14 = .ok (.iand, 1) := by decide +kernel
theorem dJ6_bitCount_0f7a4_15 : decode cJ6_bitCount_0f7a4 15 = .ok (.iload_n 0, 1) := by decide +kernel
theorem dJ6_bitCount_0f7a4_16 : decode cJ6_bitCount_0f7a4 16 = .ok (.iconst 2, 1) := by decide +kernel
theorem dJ6_bitCount_0f7a4_17 : decode cJ6_bitCount_0f7a4 17 = .ok (.iushr, 1) := by decide +kernel
theorem dJ6_bitCount_0f7a4_18 : decode cJ6_bitCount_0f7a4 18 = .ok (.ldc_w 266, 3) := by decide +kernel
theorem dJ6_bitCount_0f7a4_21 : decode cJ6_bitCount_0f7a4 21 = .ok (.iand, 1) := by decide +kernel
theorem dJ6_bitCount_0f7a4_22 : decode cJ6_bitCount_0f7a4 22 = .ok (.iadd, 1) := by decide +kernel
theorem dJ6_bitCount_0f7a4_23 : decode cJ6_bitCount_0f7a4 23 = .ok (.istore_n 0, 1) := by decide +kernel
theorem dJ6_bitCount_0f7a4_24 : decode cJ6_bitCount_0f7a4 24 = .ok (.iload_n 0, 1) := by decide +kernel
theorem dJ6_bitCount_0f7a4_25 : decode cJ6_bitCount_0f7a4 25 = .ok (.iload_n 0, 1) := by decide +kernel
theorem dJ6_bitCount_0f7a4_26 : decode cJ6_bitCount_0f7a4 26 = .ok (.iconst 4, 1) := by decide +kernel
theorem dJ6_bitCount_0f7a4_27 : decode cJ6_bitCount_0f7a4 27 = .ok (.iushr, 1) := by decide +kernel
theorem dJ6_bitCount_0f7a4_28 : decode cJ6_bitCount_0f7a4 28 = .ok (.iadd, 1) := by decide +kernel
theorem dJ6_bitCount_0f7a4_29 : decode cJ6_bitCount_0f7a4 29 = .ok (.ldc_w 267, 3) := by decide +kernel
theorem dJ6_bitCount_0f7a4_32 : decode cJ6_bitCount_0f7a4 32 = .ok (.iand, 1) := by decide +kernel
theorem dJ6_bitCount_0f7a4_33 : decode cJ6_bitCount_0f7a4 33 = .ok (.istore_n 0, 1) := by decide +kernel
theorem dJ6_bitCount_0f7a4_34 : decode cJ6_bitCount_0f7a4 34 = .ok (.iload_n 0, 1) := by decide +kernel
theorem dJ6_bitCount_0f7a4_35 : decode cJ6_bitCount_0f7a4 35 = .ok (.iload_n 0, 1) := by decide +kernel
theorem dJ6_bitCount_0f7a4_36 : decode cJ6_bitCount_0f7a4 36 = .ok (.bipush 8, 2) := by decide +kernel
theorem dJ6_bitCount_0f7a4_38 : decode cJ6_bitCount_0f7a4 38 = .ok (.iushr, 1) := by decide +kernel
theorem dJ6_bitCount_0f7a4_39 : decode cJ6_bitCount_0f7a4 39 = .ok (.iadd, 1) := by decide +kernel
theorem dJ6_bitCount_0f7a4_40 : decode cJ6_bitCount_0f7a4 40 = .ok (.istore_n 0, 1) := by decide +kernel
theorem dJ6_bitCount_0f7a4_41 : decode cJ6_bitCount_0f7a4 41 = .ok (.iload_n 0, 1) := by decide +kernel
theorem dJ6_bitCount_0f7a4_42 : decode cJ6_bitCount_0f7a4 42 = .ok (.iload_n 0, 1) := by decide +kernel
theorem dJ6_bitCount_0f7a4_43 : decode cJ6_bitCount_0f7a4 43 = .ok (.bipush 16, 2) := by decide +kernel
theorem dJ6_bitCount_0f7a4_45 : decode cJ6_bitCount_0f7a4 45 = .ok (.iushr, 1) := by decide +kernel
theorem dJ6_bitCount_0f7a4_46 : decode cJ6_bitCount_0f7a4 46 = .ok (.iadd, 1) := by decide +kernel
theorem dJ6_bitCount_0f7a4_47 : decode cJ6_bitCount_0f7a4 47 = .ok (.istore_n 0, 1) := by decide +kernel
theorem dJ6_bitCount_0f7a4_48 : decode cJ6_bitCount_0f7a4 48 = .ok (.iload_n 0, 1) := by decide +kernel
theorem dJ6_bitCount_0f7a4_49 : decode cJ6_bitCount_0f7a4 49 = .ok (.bipush 63, 2) := by decide +kernel
theorem dJ6_bitCount_0f7a4_51 : decode cJ6_bitCount_0f7a4 51 = .ok (.iand, 1) := by decide +kernel
theorem dJ6_bitCount_0f7a4_52 : decode cJ6_bitCount_0f7a4 52 = .ok (.ireturn, 1) := by decide +kernel
theorem dJ7_fill_53178_0 : decode cJ7_fill_53178 0 = .ok (.iconst 0, 1) := by decide +kernel
theorem dJ7_fill_53178_1 : decode cJ7_fill_53178 1 = .ok (.istore_n 2, 1) := by decide +kernel
theorem dJ7_fill_53178_2 : decode cJ7_fill_53178 2 = .ok (.aload_n 0, 1) := by decide +kernel
theorem dJ7_fill_53178_3 : decode cJ7_fill_53178 3 = .ok (.arraylength, 1) := by decide +kernel
theorem dJ7_fill_53178_4 : decode cJ7_fill_53178 4 = .ok (.istore_n 3, 1) := by decide +kernel
theorem dJ7_fill_53178_5 : decode cJ7_fill_53178 5 = .ok (.iload_n 2, 1) := by decide +kernel
theorem dJ7_fill_53178_6 : decode cJ7_fill_53178 6 = .ok (.iload_n 3, 1) := by decide +kernel
theorem dJ7_fill_53178_7 : decode cJ7_fill_53178 7 = .ok (.if_icmp .ge 13, 3) := by decide +kernel
theorem dJ7_fill_53178_10 : decode cJ7_fill_53178 10 = .ok (.aload_n 0, 1) := by decide +kernel
theorem dJ7_fill_53178_11 : decode cJ7_fill_53178 11 = .ok (.iload_n 2, 1) := by decide +kernel
theorem dJ7_fill_53178_12 : decode cJ7_fill_53178 12 = .ok (.iload_n 1, 1) := by decide +kernel
theorem dJ7_fill_53178_13 : decode cJ7_fill_53178 13 = .ok (.iastore, 1) := by decide +kernel
theorem dJ7_fill_53178_14 : decode cJ7_fill_53178 14 = .ok (.iinc 2 1, 3) := by decide +kernel
theorem dJ7_fill_53178_17 : decode cJ7_fill_53178 17 = .ok (.goto (-12), 3) := by decide +kernel
theorem dJ7_fill_53178_20 : decode cJ7_fill_53178 20 = .ok (.return_, 1) := by decide +kernel
theorem dJ9_max_7cf53_0 : decode cJ9_max_7cf53 0 = .ok (.iload_n 0, 1) := by decide +kernel
theorem dJ9_max_7cf53_1 : decode cJ9_max_7cf53 1 = .ok (.iload_n 1, 1) := by decide +kernel
theorem dJ9_max_7cf53_2 : decode cJ9_max_7cf53 2 = .ok (.if_icmp .lt 7, 3) := by decide +kernel
theorem dJ9_max_7cf53_5 : decode cJ9_max_7cf53 5 = .ok (.iload_n 0, 1) := by decide +kernel
theorem dJ9_max_7cf53_6 : decode cJ9_max_7cf53 6 = .ok (.goto 4, 3) := by decide +kernel
theorem dJ9_max_7cf53_9 : decode cJ9_max_7cf53 9 = .ok (.iload_n 1, 1) := by decide +kernel
theorem dJ9_max_7cf53_10 : decode cJ9_max_7cf53 10 = .ok (.ireturn, 1) := by decide +kernel
theorem dJ9_min_7cf53_0 : decode cJ9_min_7cf53 0 = .ok (.iload_n 0, 1) := by decide +kernel
theorem dJ9_min_7cf53_1 : decode cJ9_min_7cf53 1 = .ok (.iload_n 1, 1) := by decide +kernel
theorem dJ9_min_7cf53_2 : decode cJ9_min_7cf53 2 = .ok (.if_icmp .gt 7, 3) := by decide +kernel
theorem dJ9_min_7cf53_5 : decode cJ9_min_7cf53 5 = .ok (.iload_n 0, 1) := by decide +kernel
theorem dJ9_min_7cf53_6 : decode cJ9_min_7cf53 6 = .ok (.goto 4, 3) := by decide +kernel
theorem dJ9_min_7cf53_9 : decode cJ9_min_7cf53 9 = .ok (.iload_n 1, 1) := by decide +kernel
theorem dJ9_min_7cf53_10 : decode cJ9_min_7cf53 10 = .ok (.ireturn, 1) := by decide +kernel
end
section
theorem dX7_init_0 : decode cX7_init 0 = .ok (.aload_n 0, 1) := by decide +kernel
theorem dX7_init_1 : decode cX7_init 1 = .ok (.invokespecial 1, 3) := by decide +kernel
theorem dX7_init_4 : decode cX7_init 4 = .ok (.aload_n 0, 1) := by decide +kernel
theorem dX7_init_5 : decode cX7_init 5 = .ok (.sipush 142, 3) := by decide +kernel
theorem dX7_init_8 : decode cX7_init 8 = .ok (.newarray .int, 2) := by decide +kernel
theorem dX7_init_10 : decode cX7_init 10 = .ok (.putfield 7, 3) := by decide +kernel
theorem dX7_init_13 : decode cX7_init 13 = .ok (.aload_n 0, 1) := by decide +kernel
theorem dX7_init_14 : decode cX7_init 14 = .ok (.sipush 142, 3) := by decide +kernel
theorem dX7_init_17 : decode cX7_init 17 = .ok (.newarray .int, 2) := by decide +kernel
theorem dX7_init_19 : decode cX7_init 19 = .ok (.putfield 13, 3) := by decide +kernel
theorem dX7_init_22 : decode cX7_init 22 = .ok (.aload_n 0, 1) := by decide +kernel
theorem dX7_init_23 : decode cX7_init 23 = .ok (.sipush 568, 3) := by decide +kernel
theorem dX7_init_26 : decode cX7_init 26 = .ok (.newarray .int, 2) := by decide +kernel
theorem dX7_init_28 : decode cX7_init 28 = .ok (.putfield 16, 3) := by decide +kernel
theorem dX7_init_31 : decode cX7_init 31 = .ok (.aload_n 0, 1) := by decide +kernel
theorem dX7_init_32 : decode cX7_init 32 = .ok (.sipush 142, 3) := by decide +kernel
theorem dX7_init_35 : decode cX7_init 35 = .ok (.newarray .int, 2) := by decide +kernel
theorem dX7_init_37 : decode cX7_init 37 = .ok (.putfield 19, 3) := by decide +kernel
theorem dX7_init_40 : decode cX7_init 40 = .ok (.aload_n 0, 1) := by decide +kernel
theorem dX7_init_41 : decode cX7_init 41 = .ok (.bipush 60, 2) := by decide +kernel
theorem dX7_init_43 : decode cX7_init 43 = .ok (.newarray .int, 2) := by decide +kernel
theorem dX7_init_45 : decode cX7_init 45 = .ok (.putfield 22, 3) := by decide +kernel
theorem dX7_init_48 : decode cX7_init 48 = .ok (.aload_n 0, 1) := by decide +kernel
theorem dX7_init_49 : decode cX7_init 49 = .ok (.iconst 3, 1) := by decide +kernel
theorem dX7_init_50 : decode cX7_init 50 = .ok (.newarray .int, 2) := by decide +kernel
theorem dX7_init_52 : decode cX7_init 52 = .ok (.putfield 25, 3) := by decide +kernel
theorem dX7_init_55 : decode cX7_init 55 = .ok (.aload_n 0, 1) := by decide +kernel
theorem dX7_init_56 : decode cX7_init 56 = .ok (.getfield 7, 3) := by decide +kernel
theorem dX7_init_59 : decode cX7_init 59 = .ok (.iconst 2, 1) := by decide +kernel
theorem dX7_init_60 : decode cX7_init 60 = .ok (.iconst 2, 1) := by decide +kernel
theorem dX7_init_61 : decode cX7_init 61 = .ok (.iastore, 1) := by decide +kernel
theorem dX7_init_62 : decode cX7_init 62 = .ok (.aload_n 0, 1) := by decide +kernel
theorem dX7_init_63 : decode cX7_init 63 = .ok (.getfield 7, 3) := by decide +kernel
theorem dX7_init_66 : decode cX7_init 66 = .ok (.iconst 3, 1) := by decide +kernel
theorem dX7_init_67 : decode cX7_init 67 = .ok (.iconst 1, 1) := by decide +kernel
theorem dX7_init_68 : decode cX7_init 68 = .ok (.iastore, 1) := by decide +kernel
theorem dX7_init_69 : decode cX7_init 69 = .ok (.iconst 0, 1) := by decide +kernel
theorem dX7_init_70 : decode cX7_init 70 = .ok (.istore_n 1, 1) := by decide +kernel
theorem dX7_init_71 : decode cX7_init 71 = .ok (.iload_n 1, 1) := by decide +kernel
theorem dX7_init_72 : decode cX7_init 72 = .ok (.iconst 4, 1) := by decide +kernel
theorem dX7_init_73 : decode cX7_init 73 = .ok (.if_icmp .ge 54, 3) := by decide +kernel
theorem dX7_init_76 : decode cX7_init 76 = .ok (.aload_n 0, 1) := by decide +kernel
theorem dX7_init_77 : decode cX7_init 77 = .ok (.getfield 7, 3) := by decide +kernel
theorem dX7_init_80 : decode cX7_init 80 = .ok (.bipush 10, 2) := by decide +kernel
theorem dX7_init_82 : decode cX7_init 82 = .ok (.iconst 5, 1) := by decide +kernel
theorem dX7_init_83 : decode cX7_init 83 = .ok (.iload_n 1, 1) := by decide +kernel
theorem dX7_init_84 : decode cX7_init 84 = .ok (.imul, 1) := by decide +kernel
theorem dX7_init_85 : decode cX7_init 85 = .ok (.iadd, 1) := by decide +kernel
theorem dX7_init_86 : decode cX7_init 86 = .ok (.iconst 0, 1) := by decide +kernel
theorem dX7_init_87 : decode cX7_init 87 = .ok (.iadd, 1) := by decide +kernel
theorem dX7_init_88 : decode cX7_init 88 = .ok (.iconst 3, 1) := by decide +kernel
theorem dX7_init_89 : decode cX7_init 89 = .ok (.iastore, 1) := by decide +kernel
theorem dX7_init_90 : decode cX7_init 90 = .ok (.aload_n 0, 1) := by decide +kernel
theorem dX7_init_91 : decode cX7_init 91 = .ok (.getfield 7, 3) := by decide +kernel
theorem dX7_init_94 : decode cX7_init 94 = .ok (.bipush 10, 2) := by decide +kernel
theorem dX7_init_96 : decode cX7_init 96 = .ok (.iconst 5, 1) := by decide +kernel
theorem dX7_init_97 : decode cX7_init 97 = .ok (.iload_n 1, 1) := by decide +kernel
theorem dX7_init_98 : decode cX7_init 98 = .ok (.imul, 1) := by decide +kernel
theorem dX7_init_99 : decode cX7_init 99 = .ok (.iadd, 1) := by decide +kernel
theorem dX7_init_100 : decode cX7_init 100 = .ok (.iconst 1, 1) := by decide +kernel
theorem dX7_init_101 : decode cX7_init 101 = .ok (.iadd, 1) := by decide +kernel
theorem dX7_init_102 : decode cX7_init 102 = .ok (.ldc 28, 2) := by decide +kernel
theorem dX7_init_104 : decode cX7_init 104 = .ok (.iastore, 1) := by decide +kernel
theorem dX7_init_105 : decode cX7_init 105 = .ok (.aload_n 0, 1) := by decide +kernel
theorem dX7_init_106 : decode cX7_init 106 = .ok (.getfield 7, 3) := by decide +kernel
theorem dX7_init_109 : decode cX7_init 109 = .ok (.bipush 10, 2) := by decide +kernel
theorem dX7_init_111 : decode cX7_init 111 = .ok (.iconst 5, 1) := by decide +kernel
theorem dX7_init_112 : decode cX7_init 112 = .ok (.iload_n 1, 1) := by decide +kernel
theorem dX7_init_113 : decode cX7_init 113 = .ok (.imul, 1) := by decide +kernel
theorem dX7_init_114 : decode cX7_init 114 = .ok (.iadd, 1) := by decide +kernel
theorem dX7_init_115 : decode cX7_init 115 = .ok (.iconst 3, 1) := by decide +kernel
theorem dX7_init_116 : decode cX7_init 116 = .ok (.iadd, 1) := by decide +kernel
theorem dX7_init_117 : decode cX7_init 117 = .ok (.iconst 5, 1) := by decide +kernel
theorem dX7_init_118 : decode cX7_init 118 = .ok (.iload_n 1, 1) := by decide +kernel
theorem dX7_init_119 : decode cX7_init 119 = .ok (.imul, 1) := by decide +kernel
theorem dX7_init_120 : decode cX7_init 120 = .ok (.iastore, 1) := by decide +kernel
theorem dX7_init_121 : decode cX7_init 121 = .ok (.iinc 1 1, 3) := by decide +kernel
theorem dX7_init_124 : decode cX7_init 124 = .ok (.goto (-53), 3) := by decide +kernel
theorem dX7_init_127 : decode cX7_init 127 = .ok (.iconst 0, 1) := by decide +kernel
theorem dX7_init_128 : decode cX7_init 128 = .ok (.istore_n 1, 1) := by decide +kernel
theorem dX7_init_129 : decode cX7_init 129 = .ok (.iload_n 1, 1) := by decide +kernel
theorem dX7_init_130 : decode cX7_init 130 = .ok (.bipush 28, 2) := by decide +kernel
theorem dX7_init_132 : decode cX7_init 132 = .ok (.if_icmp .ge 34, 3) := by decide +kernel
theorem dX7_init_135 : decode cX7_init 135 = .ok (.aload_n 0, 1) := by decide +kernel
theorem dX7_init_136 : decode cX7_init 136 = .ok (.getfield 7, 3) := by decide +kernel
theorem dX7_init_139 : decode cX7_init 139 = .ok (.bipush 30, 2) := by decide +kernel
theorem dX7_init_141 : decode cX7_init 141 = .ok (.iconst 4, 1) := by decide +kernel
theorem dX7_init_142 : decode cX7_init 142 = .ok (.iload_n 1, 1) := by decide +kernel
theorem dX7_init_143 : decode cX7_init 143 = .ok (.imul, 1) := by decide +kernel
theorem dX7_init_144 : decode cX7_init 144 = .ok (.iadd, 1) := by decide +kernel
theorem dX7_init_145 : decode cX7_init 145 = .ok (.iconst 0, 1) := by decide +kernel
theorem dX7_init_146 : decode cX7_init 146 = .ok (.iadd, 1) := by decide +kernel
theorem dX7_init_147 : decode cX7_init 147 = .ok (.iload_n 1, 1) := by decide +kernel
theorem dX7_init_148 : decode cX7_init 148 = .ok (.invokestatic 29, 3) := by decide +kernel
theorem dX7_init_151 : decode cX7_init 151 = .ok (.ifCond .eq 7, 3) := by decide +kernel
theorem dX7_init_154 : decode cX7_init 154 = .ok (.iconst 5, 1) := by decide +kernel
theorem dX7_init_155 : decode cX7_init 155 = .ok (.goto 4, 3) := by decide +kernel
theorem dX7_init_158 : decode cX7_init 158 = .ok (.iconst 0, 1) := by decide +kernel
theorem dX7_init_159 : decode cX7_init 159 = .ok (.iastore, 1) := by decide +kernel
theorem dX7_init_160 : decode cX7_init 160 = .ok (.iinc 1 1, 3) := by decide +kernel
theorem dX7_init_163 : decode cX7_init 163 = .ok (.goto (-34), 3) := by decide +kernel
theorem dX7_init_166 : decode cX7_init 166 = .ok (.return_, 1) := by decide +kernel
theorem dX7_in_0 : decode cX7_in 0 = .ok (.iload_n 0, 1) := by decide +kernel
theorem dX7_in_1 : decode cX7_in 1 = .ok (.iload_n 1, 1) := by decide +kernel
theorem dX7_in_2 : decode cX7_in 2 = .ok (.if_icmp .lt 12, 3) := by decide +kernel
theorem dX7_in_5 : decode cX7_in 5 = .ok (.iload_n 0, 1) := by decide +kernel
theorem dX7_in_6 : decode cX7_in 6 = .ok (.iload_n 2, 1) := by decide +kernel
theorem dX7_in_7 : decode cX7_in 7 = .ok (.if_icmp .gt 7, 3) := by decide +kernel
theorem dX7_in_10 : decode cX7_in 10 = .ok (.iconst 1, 1) := by decide +kernel
theorem dX7_in_11 : decode cX7_in 11 = .ok (.goto 4, 3) := by decide +kernel
theorem dX7_in_14 : decode cX7_in 14 = .ok (.iconst 0, 1) := by decide +kernel
theorem dX7_in_15 : decode cX7_in 15 = .ok (.ireturn, 1) := by decide +kernel
theorem dX7_copies_0 : decode cX7_copies 0 = .ok (.iconst 0, 1) := by decide +kernel
theorem dX7_copies_1 : decode cX7_copies 1 = .ok (.istore 4, 2) := by decide +kernel
theorem dX7_copies_3 : decode cX7_copies 3 = .ok (.iload 4, 2) := by decide +kernel
theorem dX7_copies_5 : decode cX7_copies 5 = .ok (.sipush 142, 3) := by decide +kernel
theorem dX7_copies_8 : decode cX7_copies 8 = .ok (.if_icmp .ge 21, 3) := by decide +kernel
theorem dX7_copies_11 : decode cX7_copies 11 = .ok (.aload_n 2, 1) := by decide +kernel
theorem dX7_copies_12 : decode cX7_copies 12 = .ok (.iload_n 3, 1) := by decide +kernel
theorem dX7_copies_13 : decode cX7_copies 13 = .ok (.iload 4, 2) := by decide +kernel
theorem dX7_copies_15 : decode cX7_copies 15 = .ok (.iadd, 1) := by decide +kernel
theorem dX7_copies_16 : decode cX7_copies 16 = .ok (.aload_n 0, 1) := by decide +kernel
theorem dX7_copies_17 : decode cX7_copies 17 = .ok (.iload_n 1, 1) := by decide +kernel
theorem dX7_copies_18 : decode cX7_copies 18 = .ok (.iload 4, 2) := by decide +kernel
theorem dX7_copies_20 : decode cX7_copies 20 = .ok (.iadd, 1) := by decide +kernel
theorem dX7_copies_21 : decode cX7_copies 21 = .ok (.iaload, 1) := by decide +kernel
theorem dX7_copies_22 : decode cX7_copies 22 = .ok (.iastore, 1) := by decide +kernel
theorem dX7_copies_23 : decode cX7_copies 23 = .ok (.iinc 4 1, 3) := by decide +kernel
theorem dX7_copies_26 : decode cX7_copies 26 = .ok (.goto (-23), 3) := by decide +kernel
theorem dX7_copies_29 : decode cX7_copies 29 = .ok (.return_, 1) := by decide +kernel
theorem dX7_records_0 : decode cX7_records 0 = .ok (.aload_n 0, 1) := by decide +kernel
theorem dX7_records_1 : decode cX7_records 1 = .ok (.getfield 33, 3) := by decide +kernel
theorem dX7_records_4 : decode cX7_records 4 = .ok (.iconst 4, 1) := by decide +kernel
theorem dX7_records_5 : decode cX7_records 5 = .ok (.if_icmp .ne 44, 3) := by decide +kernel
theorem dX7_records_8 : decode cX7_records 8 = .ok (.iconst 0, 1) := by decide +kernel
theorem dX7_records_9 : decode cX7_records 9 = .ok (.istore_n 1, 1) := by decide +kernel
theorem dX7_records_10 : decode cX7_records 10 = .ok (.iload_n 1, 1) := by decide +kernel
theorem dX7_records_11 : decode cX7_records 11 = .ok (.sipush 426, 3) := by decide +kernel
theorem dX7_records_14 : decode cX7_records 14 = .ok (.if_icmp .ge 25, 3) := by decide +kernel
theorem dX7_records_17 : decode cX7_records 17 = .ok (.aload_n 0, 1) := by decide +kernel
theorem dX7_records_18 : decode cX7_records 18 = .ok (.getfield 16, 3) := by decide +kernel
theorem dX7_records_21 : decode cX7_records 21 = .ok (.iload_n 1, 1) := by decide +kernel
theorem dX7_records_22 : decode cX7_records 22 = .ok (.aload_n 0, 1) := by decide +kernel
theorem dX7_records_23 : decode cX7_records 23 = .ok (.getfield 16, 3) := by decide +kernel
theorem dX7_records_26 : decode cX7_records 26 = .ok (.iload_n 1, 1) := by decide +kernel
theorem dX7_records_27 : decode cX7_records 27 = .ok (.sipush 142, 3) := by decide +kernel
theorem dX7_records_30 : decode cX7_records 30 = .ok (.iadd, 1) := by decide +kernel
theorem dX7_records_31 : decode cX7_records 31 = .ok (.iaload, 1) := by decide +kernel
theorem dX7_records_32 : decode cX7_records 32 = .ok (.iastore, 1) := by decide +kernel
theorem dX7_records_33 : decode cX7_records 33 = .ok (.iinc 1 1, 3) := by decide +kernel
theorem dX7_records_36 : decode cX7_records 36 = .ok (.goto (-26), 3) := by decide +kernel
theorem dX7_records_39 : decode cX7_records 39 = .ok (.aload_n 0, 1) := by decide +kernel
theorem dX7_records_40 : decode cX7_records 40 = .ok (.dup, 1) := by decide +kernel
theorem dX7_records_41 : decode cX7_records 41 = .ok (.getfield 33, 3) := by decide +kernel
theorem dX7_records_44 : decode cX7_records 44 = .ok (.iconst 1, 1) := by decide +kernel
theorem dX7_records_45 : decode cX7_records 45 = .ok (.isub, 1) := by decide +kernel
theorem dX7_records_46 : decode cX7_records 46 = .ok (.putfield 33, 3) := by decide +kernel
theorem dX7_records_49 : decode cX7_records 49 = .ok (.aload_n 0, 1) := by decide +kernel
theorem dX7_records_50 : decode cX7_records 50 = .ok (.getfield 7, 3) := by decide +kernel
theorem dX7_records_53 : decode cX7_records 53 = .ok (.iconst 0, 1) := by decide +kernel
theorem dX7_records_54 : decode cX7_records 54 = .ok (.aload_n 0, 1) := by decide +kernel
theorem dX7_records_55 : decode cX7_records 55 = .ok (.getfield 16, 3) := by decide +kernel
theorem dX7_records_58 : decode cX7_records 58 = .ok (.sipush 142, 3) := by decide +kernel
theorem dX7_records_61 : decode cX7_records 61 = .ok (.aload_n 0, 1) := by decide +kernel
theorem dX7_records_62 : decode cX7_records 62 = .ok (.getfield 33, 3) := by decide +kernel
theorem dX7_records_65 : decode cX7_records 65 = .ok (.imul, 1) := by decide +kernel
theorem dX7_records_66 : decode cX7_records 66 = .ok (.invokestatic 37, 3) := by decide +kernel
theorem dX7_records_69 : decode cX7_records 69 = .ok (.aload_n 0, 1) := by decide +kernel
theorem dX7_records_70 : decode cX7_records 70 = .ok (.dup, 1) := by decide +kernel
theorem dX7_records_71 : decode cX7_records 71 = .ok (.getfield 33, 3) := by decide +kernel
theorem dX7_records_74 : decode cX7_records 74 = .ok (.iconst 1, 1) := by decide +kernel
theorem dX7_records_75 : decode cX7_records 75 = .ok (.iadd, 1) := by decide +kernel
theorem dX7_records_76 : decode cX7_records 76 = .ok (.putfield 33, 3) := by decide +kernel
theorem dX7_records_79 : decode cX7_records 79 = .ok (.return_, 1) := by decide +kernel
theorem dX7_isRoof_0 : decode cX7_isRoof 0 = .ok (.iload_n 0, 1) := by decide +kernel
theorem dX7_isRoof_1 : decode cX7_isRoof 1 = .ok (.iconst 0, 1) := by decide +kernel
theorem dX7_isRoof_2 : decode cX7_isRoof 2 = .ok (.bipush 15, 2) := by decide +kernel
theorem dX7_isRoof_4 : decode cX7_isRoof 4 = .ok (.invokestatic 41, 3) := by decide +kernel
theorem dX7_isRoof_7 : decode cX7_isRoof 7 = .ok (.ireturn, 1) := by decide +kernel
theorem dX7_isOwner_0 : decode cX7_isOwner 0 = .ok (.iload_n 0, 1) := by decide +kernel
theorem dX7_isOwner_1 : decode cX7_isOwner 1 = .ok (.iconst 0, 1) := by decide +kernel
theorem dX7_isOwner_2 : decode cX7_isOwner 2 = .ok (.iconst 3, 1) := by decide +kernel
theorem dX7_isOwner_3 : decode cX7_isOwner 3 = .ok (.invokestatic 41, 3) := by decide +kernel
theorem dX7_isOwner_6 : decode cX7_isOwner 6 = .ok (.ireturn, 1) := by decide +kernel
theorem dX7_isGangway_0 : decode cX7_isGangway 0 = .ok (.iload_n 0, 1) := by decide +kernel
theorem dX7_isGangway_1 : decode cX7_isGangway 1 = .ok (.iconst 0, 1) := by decide +kernel
theorem dX7_isGangway_2 : decode cX7_isGangway 2 = .ok (.bipush 27, 2) := by decide +kernel
theorem dX7_isGangway_4 : decode cX7_isGangway 4 = .ok (.invokestatic 41, 3) := by decide +kernel
theorem dX7_isGangway_7 : decode cX7_isGangway 7 = .ok (.ifCond .eq 20, 3) := by decide +kernel
theorem dX7_isGangway_10 : decode cX7_isGangway 10 = .ok (.iload_n 0, 1) := by decide +kernel
theorem dX7_isGangway_11 : decode cX7_isGangway 11 = .ok (.bipush 16, 2) := by decide +kernel
theorem dX7_isGangway_13 : decode cX7_isGangway 13 = .ok (.if_icmp .ge 10, 3) := by decide +kernel
theorem dX7_isGangway_16 : decode cX7_isGangway 16 = .ok (.iload_n 0, 1) := by decide +kernel
theorem dX7_isGangway_17 : decode cX7_isGangway 17 = .ok (.iconst 4, 1) := by decide +kernel
theorem dX7_isGangway_18 : decode cX7_isGangway 18 = .ok (.irem, 1) := by decide +kernel
theorem dX7_isGangway_19 : decode cX7_isGangway 19 = .ok (.iconst 3, 1) := by decide +kernel
theorem dX7_isGangway_20 : decode cX7_isGangway 20 = .ok (.if_icmp .ge 7, 3) := by decide +kernel
theorem dX7_isGangway_23 : decode cX7_isGangway 23 = .ok (.iconst 1, 1) := by decide +kernel
theorem dX7_isGangway_24 : decode cX7_isGangway 24 = .ok (.goto 4, 3) := by decide +kernel
theorem dX7_isGangway_27 : decode cX7_isGangway 27 = .ok (.iconst 0, 1) := by decide +kernel
theorem dX7_isGangway_28 : decode cX7_isGangway 28 = .ok (.ireturn, 1) := by decide +kernel
theorem dX7_lesserOf_0 : decode cX7_lesserOf 0 = .ok (.iload_n 0, 1) := by decide +kernel
theorem dX7_lesserOf_1 : decode cX7_lesserOf 1 = .ok (.bipush 16, 2) := by decide +kernel
theorem dX7_lesserOf_3 : decode cX7_lesserOf 3 = .ok (.if_icmp .ge 7, 3) := by decide +kernel
theorem dX7_lesserOf_6 : decode cX7_lesserOf 6 = .ok (.iload_n 0, 1) := by decide +kernel
theorem dX7_lesserOf_7 : decode cX7_lesserOf 7 = .ok (.goto 7, 3) := by decide +kernel
theorem dX7_lesserOf_10 : decode cX7_lesserOf 10 = .ok (.iload_n 0, 1) := by decide +kernel
theorem dX7_lesserOf_11 : decode cX7_lesserOf 11 = .ok (.bipush 16, 2) := by decide +kernel
theorem dX7_lesserOf_13 : decode cX7_lesserOf 13 = .ok (.isub, 1) := by decide +kernel
theorem dX7_lesserOf_14 : decode cX7_lesserOf 14 = .ok (.ireturn, 1) := by decide +kernel
theorem dX7_greaterOf_0 : decode cX7_greaterOf 0 = .ok (.iload_n 0, 1) := by decide +kernel
theorem dX7_greaterOf_1 : decode cX7_greaterOf 1 = .ok (.bipush 16, 2) := by decide +kernel
theorem dX7_greaterOf_3 : decode cX7_greaterOf 3 = .ok (.if_icmp .ge 9, 3) := by decide +kernel
theorem dX7_greaterOf_6 : decode cX7_greaterOf 6 = .ok (.iload_n 0, 1) := by decide +kernel
theorem dX7_greaterOf_7 : decode cX7_greaterOf 7 = .ok (.iconst 1, 1) := by decide +kernel
theorem dX7_greaterOf_8 : decode cX7_greaterOf 8 = .ok (.iadd, 1) := by decide +kernel
theorem dX7_greaterOf_9 : decode cX7_greaterOf 9 = .ok (.goto 9, 3) := by decide +kernel
theorem dX7_greaterOf_12 : decode cX7_greaterOf 12 = .ok (.iload_n 0, 1) := by decide +kernel
theorem dX7_greaterOf_13 : decode cX7_greaterOf 13 = .ok (.bipush 16, 2) := by decide +kernel
theorem dX7_greaterOf_15 : decode cX7_greaterOf 15 = .ok (.isub, 1) := by decide +kernel
theorem dX7_greaterOf_16 : decode cX7_greaterOf 16 = .ok (.iconst 4, 1) := by decide +kernel
theorem dX7_greaterOf_17 : decode cX7_greaterOf 17 = .ok (.iadd, 1) := by decide +kernel
theorem dX7_greaterOf_18 : decode cX7_greaterOf 18 = .ok (.ireturn, 1) := by decide +kernel
theorem dX7_isOfRoof_0 : decode cX7_isOfRoof 0 = .ok (.iload_n 0, 1) := by decide +kernel
theorem dX7_isOfRoof_1 : decode cX7_isOfRoof 1 = .ok (.invokestatic 29, 3) := by decide +kernel
theorem dX7_isOfRoof_4 : decode cX7_isOfRoof 4 = .ok (.ifCond .eq 23, 3) := by decide +kernel
theorem dX7_isOfRoof_7 : decode cX7_isOfRoof 7 = .ok (.iload_n 0, 1) := by decide +kernel
theorem dX7_isOfRoof_8 : decode cX7_isOfRoof 8 = .ok (.invokestatic 45, 3) := by decide +kernel
theorem dX7_isOfRoof_11 : decode cX7_isOfRoof 11 = .ok (.iload_n 1, 1) := by decide +kernel
theorem dX7_isOfRoof_12 : decode cX7_isOfRoof 12 = .ok (.if_icmp .eq 11, 3) := by decide +kernel
theorem dX7_isOfRoof_15 : decode cX7_isOfRoof 15 = .ok (.iload_n 0, 1) := by decide +kernel
theorem dX7_isOfRoof_16 : decode cX7_isOfRoof 16 = .ok (.invokestatic 49, 3) := by decide +kernel
theorem dX7_isOfRoof_19 : decode cX7_isOfRoof 19 = .ok (.iload_n 1, 1) := by decide +kernel
theorem dX7_isOfRoof_20 : decode cX7_isOfRoof 20 = .ok (.if_icmp .ne 7, 3) := by decide +kernel
theorem dX7_isOfRoof_23 : decode cX7_isOfRoof 23 = .ok (.iconst 1, 1) := by decide +kernel
theorem dX7_isOfRoof_24 : decode cX7_isOfRoof 24 = .ok (.goto 4, 3) := by decide +kernel
theorem dX7_isOfRoof_27 : decode cX7_isOfRoof 27 = .ok (.iconst 0, 1) := by decide +kernel
theorem dX7_isOfRoof_28 : decode cX7_isOfRoof 28 = .ok (.ireturn, 1) := by decide +kernel
theorem dX7_otherOf_0 : decode cX7_otherOf 0 = .ok (.iload_n 0, 1) := by decide +kernel
theorem dX7_otherOf_1 : decode cX7_otherOf 1 = .ok (.invokestatic 45, 3) := by decide +kernel
theorem dX7_otherOf_4 : decode cX7_otherOf 4 = .ok (.iload_n 1, 1) := by decide +kernel
theorem dX7_otherOf_5 : decode cX7_otherOf 5 = .ok (.if_icmp .ne 10, 3) := by decide +kernel
theorem dX7_otherOf_8 : decode cX7_otherOf 8 = .ok (.iload_n 0, 1) := by decide +kernel
theorem dX7_otherOf_9 : decode cX7_otherOf 9 = .ok (.invokestatic 49, 3) := by decide +kernel
theorem dX7_otherOf_12 : decode cX7_otherOf 12 = .ok (.goto 7, 3) := by decide +kernel
theorem dX7_otherOf_15 : decode cX7_otherOf 15 = .ok (.iload_n 0, 1) := by decide +kernel
theorem dX7_otherOf_16 : decode cX7_otherOf 16 = .ok (.invokestatic 45, 3) := by decide +kernel
theorem dX7_otherOf_19 : decode cX7_otherOf 19 = .ok (.ireturn, 1) := by decide +kernel
theorem dX7_isIn_0 : decode cX7_isIn 0 = .ok (.iload_n 0, 1) := by decide +kernel
theorem dX7_isIn_1 : decode cX7_isIn 1 = .ok (.iload_n 1, 1) := by decide +kernel
theorem dX7_isIn_2 : decode cX7_isIn 2 = .ok (.ishr, 1) := by decide +kernel
theorem dX7_isIn_3 : decode cX7_isIn 3 = .ok (.iconst 1, 1) := by decide +kernel
theorem dX7_isIn_4 : decode cX7_isIn 4 = .ok (.iand, 1) := by decide +kernel
theorem dX7_isIn_5 : decode cX7_isIn 5 = .ok (.iconst 1, 1) := by decide +kernel
theorem dX7_isIn_6 : decode cX7_isIn 6 = .ok (.if_icmp .ne 7, 3) := by decide +kernel
theorem dX7_isIn_9 : decode cX7_isIn 9 = .ok (.iconst 1, 1) := by decide +kernel
theorem dX7_isIn_10 : decode cX7_isIn 10 = .ok (.goto 4, 3) := by decide +kernel
theorem dX7_isIn_13 : decode cX7_isIn 13 = .ok (.iconst 0, 1) := by decide +kernel
theorem dX7_isIn_14 : decode cX7_isIn 14 = .ok (.ireturn, 1) := by decide +kernel
theorem dX7_ones_0 : decode cX7_ones 0 = .ok (.iconst 0, 1) := by decide +kernel
theorem dX7_ones_1 : decode cX7_ones 1 = .ok (.istore_n 1, 1) := by decide +kernel
theorem dX7_ones_2 : decode cX7_ones 2 = .ok (.iconst 0, 1) := by decide +kernel
theorem dX7_ones_3 : decode cX7_ones 3 = .ok (.istore_n 2, 1) := by decide +kernel
theorem dX7_ones_4 : decode cX7_ones 4 = .ok (.iload_n 2, 1) := by decide +kernel
theorem dX7_ones_5 : decode cX7_ones 5 = .ok (.bipush 16, 2) := by decide +kernel
theorem dX7_ones_7 : decode cX7_ones 7 = .ok (.if_icmp .ge 17, 3) := by decide +kernel
theorem dX7_ones_10 : decode cX7_ones 10 = .ok (.iload_n 1, 1) := by decide +kernel
theorem dX7_ones_11 : decode cX7_ones 11 = .ok (.iload_n 0, 1) := by decide +kernel
theorem dX7_ones_12 : decode cX7_ones 12 = .ok (.iload_n 2, 1) := by decide +kernel
theorem dX7_ones_13 : decode cX7_ones 13 = .ok (.ishr, 1) := by decide +kernel
theorem dX7_ones_14 : decode cX7_ones 14 = .ok (.iconst 1, 1) := by decide +kernel
theorem dX7_ones_15 : decode cX7_ones 15 = .ok (.iand, 1) := by decide +kernel
theorem dX7_ones_16 : decode cX7_ones 16 = .ok (.iadd, 1) := by decide +kernel
theorem dX7_ones_17 : decode cX7_ones 17 = .ok (.istore_n 1, 1) := by decide +kernel
theorem dX7_ones_18 : decode cX7_ones 18 = .ok (.iinc 2 1, 3) := by decide +kernel
theorem dX7_ones_21 : decode cX7_ones 21 = .ok (.goto (-17), 3) := by decide +kernel
theorem dX7_ones_24 : decode cX7_ones 24 = .ok (.iload_n 1, 1) := by decide +kernel
theorem dX7_ones_25 : decode cX7_ones 25 = .ok (.ireturn, 1) := by decide +kernel
theorem dX7_of_0 : decode cX7_of 0 = .ok (.aload_n 0, 1) := by decide +kernel
theorem dX7_of_1 : decode cX7_of 1 = .ok (.getfield 7, 3) := by decide +kernel
theorem dX7_of_4 : decode cX7_of 4 = .ok (.bipush 30, 2) := by decide +kernel
theorem dX7_of_6 : decode cX7_of 6 = .ok (.iconst 4, 1) := by decide +kernel
theorem dX7_of_7 : decode cX7_of 7 = .ok (.iload_n 1, 1) := by decide +kernel
theorem dX7_of_8 : decode cX7_of 8 = .ok (.imul, 1) := by decide +kernel
theorem dX7_of_9 : decode cX7_of 9 = .ok (.iadd, 1) := by decide +kernel
theorem dX7_of_10 : decode cX7_of 10 = .ok (.iload_n 2, 1) := by decide +kernel
theorem dX7_of_11 : decode cX7_of 11 = .ok (.iadd, 1) := by decide +kernel
theorem dX7_of_12 : decode cX7_of 12 = .ok (.iaload, 1) := by decide +kernel
theorem dX7_of_13 : decode cX7_of 13 = .ok (.ireturn, 1) := by decide +kernel
theorem dX7_lays_0 : decode cX7_lays 0 = .ok (.aload_n 0, 1) := by decide +kernel
theorem dX7_lays_1 : decode cX7_lays 1 = .ok (.getfield 7, 3) := by decide +kernel
theorem dX7_lays_4 : decode cX7_lays 4 = .ok (.bipush 30, 2) := by decide +kernel
theorem dX7_lays_6 : decode cX7_lays 6 = .ok (.iconst 4, 1) := by decide +kernel
theorem dX7_lays_7 : decode cX7_lays 7 = .ok (.iload_n 1, 1) := by decide +kernel
theorem dX7_lays_8 : decode cX7_lays 8 = .ok (.imul, 1) := by decide +kernel
theorem dX7_lays_9 : decode cX7_lays 9 = .ok (.iadd, 1) := by decide +kernel
theorem dX7_lays_10 : decode cX7_lays 10 = .ok (.iload_n 2, 1) := by decide +kernel
theorem dX7_lays_11 : decode cX7_lays 11 = .ok (.iadd, 1) := by decide +kernel
theorem dX7_lays_12 : decode cX7_lays 12 = .ok (.iload_n 3, 1) := by decide +kernel
theorem dX7_lays_13 : decode cX7_lays 13 = .ok (.iastore, 1) := by decide +kernel
theorem dX7_lays_14 : decode cX7_lays 14 = .ok (.return_, 1) := by decide +kernel
theorem dX7_ofOwner_0 : decode cX7_ofOwner 0 = .ok (.aload_n 0, 1) := by decide +kernel
theorem dX7_ofOwner_1 : decode cX7_ofOwner 1 = .ok (.getfield 7, 3) := by decide +kernel
theorem dX7_ofOwner_4 : decode cX7_ofOwner 4 = .ok (.bipush 10, 2) := by decide +kernel
theorem dX7_ofOwner_6 : decode cX7_ofOwner 6 = .ok (.iconst 5, 1) := by decide +kernel
theorem dX7_ofOwner_7 : decode cX7_ofOwner 7 = .ok (.iload_n 1, 1) := by decide +kernel
theorem dX7_ofOwner_8 : decode cX7_ofOwner 8 = .ok (.imul, 1) := by decide +kernel
theorem dX7_ofOwner_9 : decode cX7_ofOwner 9 = .ok (.iadd, 1) := by decide +kernel
theorem dX7_ofOwner_10 : decode cX7_ofOwner 10 = .ok (.iload_n 2, 1) := by decide +kernel
theorem dX7_ofOwner_11 : decode cX7_ofOwner 11 = .ok (.iadd, 1) := by decide +kernel
theorem dX7_ofOwner_12 : decode cX7_ofOwner 12 = .ok (.iaload, 1) := by decide +kernel
theorem dX7_ofOwner_13 : decode cX7_ofOwner 13 = .ok (.ireturn, 1) := by decide +kernel
theorem dX7_hasLine_0 : decode cX7_hasLine 0 = .ok (.aload_n 0, 1) := by decide +kernel
theorem dX7_hasLine_1 : decode cX7_hasLine 1 = .ok (.iload_n 1, 1) := by decide +kernel
theorem dX7_hasLine_2 : decode cX7_hasLine 2 = .ok (.iconst 1, 1) := by decide +kernel
theorem dX7_hasLine_3 : decode cX7_hasLine 3 = .ok (.invokevirtual 52, 3) := by decide +kernel
theorem dX7_hasLine_6 : decode cX7_hasLine 6 = .ok (.ifCond .le 7, 3) := by decide +kernel
theorem dX7_hasLine_9 : decode cX7_hasLine 9 = .ok (.iconst 1, 1) := by decide +kernel
theorem dX7_hasLine_10 : decode cX7_hasLine 10 = .ok (.goto 4, 3) := by decide +kernel
theorem dX7_hasLine_13 : decode cX7_hasLine 13 = .ok (.iconst 0, 1) := by decide +kernel
theorem dX7_hasLine_14 : decode cX7_hasLine 14 = .ok (.ireturn, 1) := by decide +kernel
theorem dX7_isClean_0 : decode cX7_isClean 0 = .ok (.aload_n 0, 1) := by decide +kernel
theorem dX7_isClean_1 : decode cX7_isClean 1 = .ok (.iload_n 1, 1) := by decide +kernel
theorem dX7_isClean_2 : decode cX7_isClean 2 = .ok (.invokevirtual 56, 3) := by decide +kernel
theorem dX7_isClean_5 : decode cX7_isClean 5 = .ok (.ifCond .eq 23, 3) := by decide +kernel
theorem dX7_isClean_8 : decode cX7_isClean 8 = .ok (.aload_n 0, 1) := by decide +kernel
theorem dX7_isClean_9 : decode cX7_isClean 9 = .ok (.iload_n 1, 1) := by decide +kernel
theorem dX7_isClean_10 : decode cX7_isClean 10 = .ok (.iconst 2, 1) := by decide +kernel
theorem dX7_isClean_11 : decode cX7_isClean 11 = .ok (.invokevirtual 52, 3) := by decide +kernel
theorem dX7_isClean_14 : decode cX7_isClean 14 = .ok (.aload_n 0, 1) := by decide +kernel
theorem dX7_isClean_15 : decode cX7_isClean 15 = .ok (.iload_n 1, 1) := by decide +kernel
theorem dX7_isClean_16 : decode cX7_isClean 16 = .ok (.iconst 3, 1) := by decide +kernel
theorem dX7_isClean_17 : decode cX7_isClean 17 = .ok (.invokevirtual 52, 3) := by decide +kernel
theorem dX7_isClean_20 : decode cX7_isClean 20 = .ok (.iadd, 1) := by decide +kernel
theorem dX7_isClean_21 : decode cX7_isClean 21 = .ok (.ifCond .ne 7, 3) := by decide +kernel
theorem dX7_isClean_24 : decode cX7_isClean 24 = .ok (.iconst 1, 1) := by decide +kernel
theorem dX7_isClean_25 : decode cX7_isClean 25 = .ok (.goto 4, 3) := by decide +kernel
theorem dX7_isClean_28 : decode cX7_isClean 28 = .ok (.iconst 0, 1) := by decide +kernel
theorem dX7_isClean_29 : decode cX7_isClean 29 = .ok (.ireturn, 1) := by decide +kernel
theorem dX7_bothOf_0 : decode cX7_bothOf 0 = .ok (.iconst 1, 1) := by decide +kernel
theorem dX7_bothOf_1 : decode cX7_bothOf 1 = .ok (.iload_n 1, 1) := by decide +kernel
theorem dX7_bothOf_2 : decode cX7_bothOf 2 = .ok (.invokestatic 45, 3) := by decide +kernel
theorem dX7_bothOf_5 : decode cX7_bothOf 5 = .ok (.ishl, 1) := by decide +kernel
theorem dX7_bothOf_6 : decode cX7_bothOf 6 = .ok (.iconst 1, 1) := by decide +kernel
theorem dX7_bothOf_7 : decode cX7_bothOf 7 = .ok (.iload_n 1, 1) := by decide +kernel
theorem dX7_bothOf_8 : decode cX7_bothOf 8 = .ok (.invokestatic 49, 3) := by decide +kernel
theorem dX7_bothOf_11 : decode cX7_bothOf 11 = .ok (.ishl, 1) := by decide +kernel
theorem dX7_bothOf_12 : decode cX7_bothOf 12 = .ok (.ior, 1) := by decide +kernel
theorem dX7_bothOf_13 : decode cX7_bothOf 13 = .ok (.ireturn, 1) := by decide +kernel
theorem dX7_nextTo_0 : decode cX7_nextTo 0 = .ok (.iload_n 0, 1) := by decide +kernel
theorem dX7_nextTo_1 : decode cX7_nextTo 1 = .ok (.iconst 4, 1) := by decide +kernel
theorem dX7_nextTo_2 : decode cX7_nextTo 2 = .ok (.idiv, 1) := by decide +kernel
theorem dX7_nextTo_3 : decode cX7_nextTo 3 = .ok (.istore_n 2, 1) := by decide +kernel
theorem dX7_nextTo_4 : decode cX7_nextTo 4 = .ok (.iload_n 0, 1) := by decide +kernel
theorem dX7_nextTo_5 : decode cX7_nextTo 5 = .ok (.iconst 4, 1) := by decide +kernel
theorem dX7_nextTo_6 : decode cX7_nextTo 6 = .ok (.irem, 1) := by decide +kernel
theorem dX7_nextTo_7 : decode cX7_nextTo 7 = .ok (.istore_n 3, 1) := by decide +kernel
theorem dX7_nextTo_8 : decode cX7_nextTo 8 = .ok (.iload_n 1, 1) := by decide +kernel
theorem dX7_nextTo_9 : decode cX7_nextTo 9 = .ok (.tableswitch 68 0 2 #[27, 41, 55], 27) := by decide +kernel
theorem dX7_nextTo_36 : decode cX7_nextTo 36 = .ok (.iload_n 3, 1) := by decide +kernel
theorem dX7_nextTo_37 : decode cX7_nextTo 37 = .ok (.iconst 3, 1) := by decide +kernel
theorem dX7_nextTo_38 : decode cX7_nextTo 38 = .ok (.if_icmp .ne 8, 3) := by decide +kernel
theorem dX7_nextTo_41 : decode cX7_nextTo 41 = .ok (.bipush (-4), 2) := by decide +kernel
theorem dX7_nextTo_43 : decode cX7_nextTo 43 = .ok (.goto 6, 3) := by decide +kernel
theorem dX7_nextTo_46 : decode cX7_nextTo 46 = .ok (.iload_n 0, 1) := by decide +kernel
theorem dX7_nextTo_47 : decode cX7_nextTo 47 = .ok (.iconst 1, 1) := by decide +kernel
theorem dX7_nextTo_48 : decode cX7_nextTo 48 = .ok (.iadd, 1) := by decide +kernel
theorem dX7_nextTo_49 : decode cX7_nextTo 49 = .ok (.ireturn, 1) := by decide +kernel
theorem dX7_nextTo_50 : decode cX7_nextTo 50 = .ok (.iload_n 2, 1) := by decide +kernel
theorem dX7_nextTo_51 : decode cX7_nextTo 51 = .ok (.iconst 3, 1) := by decide +kernel
theorem dX7_nextTo_52 : decode cX7_nextTo 52 = .ok (.if_icmp .ne 8, 3) := by decide +kernel
theorem dX7_nextTo_55 : decode cX7_nextTo 55 = .ok (.bipush (-4), 2) := by decide +kernel
theorem dX7_nextTo_57 : decode cX7_nextTo 57 = .ok (.goto 6, 3) := by decide +kernel
theorem dX7_nextTo_60 : decode cX7_nextTo 60 = .ok (.iload_n 0, 1) := by decide +kernel
theorem dX7_nextTo_61 : decode cX7_nextTo 61 = .ok (.iconst 4, 1) := by decide +kernel
theorem dX7_nextTo_62 : decode cX7_nextTo 62 = .ok (.iadd, 1) := by decide +kernel
theorem dX7_nextTo_63 : decode cX7_nextTo 63 = .ok (.ireturn, 1) := by decide +kernel
theorem dX7_nextTo_64 : decode cX7_nextTo 64 = .ok (.iload_n 3, 1) := by decide +kernel
theorem dX7_nextTo_65 : decode cX7_nextTo 65 = .ok (.ifCond .ne 8, 3) := by decide +kernel
theorem dX7_nextTo_68 : decode cX7_nextTo 68 = .ok (.bipush (-4), 2) := by decide +kernel
theorem dX7_nextTo_70 : decode cX7_nextTo 70 = .ok (.goto 6, 3) := by decide +kernel
theorem dX7_nextTo_73 : decode cX7_nextTo 73 = .ok (.iload_n 0, 1) := by decide +kernel
theorem dX7_nextTo_74 : decode cX7_nextTo 74 = .ok (.iconst 1, 1) := by decide +kernel
theorem dX7_nextTo_75 : decode cX7_nextTo 75 = .ok (.isub, 1) := by decide +kernel
theorem dX7_nextTo_76 : decode cX7_nextTo 76 = .ok (.ireturn, 1) := by decide +kernel
theorem dX7_nextTo_77 : decode cX7_nextTo 77 = .ok (.iload_n 2, 1) := by decide +kernel
theorem dX7_nextTo_78 : decode cX7_nextTo 78 = .ok (.ifCond .ne 8, 3) := by decide +kernel
theorem dX7_nextTo_81 : decode cX7_nextTo 81 = .ok (.bipush (-4), 2) := by decide +kernel
theorem dX7_nextTo_83 : decode cX7_nextTo 83 = .ok (.goto 6, 3) := by decide +kernel
theorem dX7_nextTo_86 : decode cX7_nextTo 86 = .ok (.iload_n 0, 1) := by decide +kernel
theorem dX7_nextTo_87 : decode cX7_nextTo 87 = .ok (.iconst 4, 1) := by decide +kernel
theorem dX7_nextTo_88 : decode cX7_nextTo 88 = .ok (.isub, 1) := by decide +kernel
theorem dX7_nextTo_89 : decode cX7_nextTo 89 = .ok (.ireturn, 1) := by decide +kernel
theorem dX7_smokeOf_0 : decode cX7_smokeOf 0 = .ok (.iconst 1, 1) := by decide +kernel
theorem dX7_smokeOf_1 : decode cX7_smokeOf 1 = .ok (.iload_n 1, 1) := by decide +kernel
theorem dX7_smokeOf_2 : decode cX7_smokeOf 2 = .ok (.ishl, 1) := by decide +kernel
theorem dX7_smokeOf_3 : decode cX7_smokeOf 3 = .ok (.istore_n 3, 1) := by decide +kernel
theorem dX7_smokeOf_4 : decode cX7_smokeOf 4 = .ok (.iload_n 1, 1) := by decide +kernel
theorem dX7_smokeOf_5 : decode cX7_smokeOf 5 = .ok (.istore 4, 2) := by decide +kernel
theorem dX7_smokeOf_7 : decode cX7_smokeOf 7 = .ok (.iconst 0, 1) := by decide +kernel
theorem dX7_smokeOf_8 : decode cX7_smokeOf 8 = .ok (.istore 5, 2) := by decide +kernel
theorem dX7_smokeOf_10 : decode cX7_smokeOf 10 = .ok (.iload 5, 2) := by decide +kernel
theorem dX7_smokeOf_12 : decode cX7_smokeOf 12 = .ok (.aload_n 0, 1) := by decide +kernel
theorem dX7_smokeOf_13 : decode cX7_smokeOf 13 = .ok (.getfield 7, 3) := by decide +kernel
theorem dX7_smokeOf_16 : decode cX7_smokeOf 16 = .ok (.iconst 2, 1) := by decide +kernel
theorem dX7_smokeOf_17 : decode cX7_smokeOf 17 = .ok (.iaload, 1) := by decide +kernel
theorem dX7_smokeOf_18 : decode cX7_smokeOf 18 = .ok (.if_icmp .ge 38, 3) := by decide +kernel
theorem dX7_smokeOf_21 : decode cX7_smokeOf 21 = .ok (.iload 4, 2) := by decide +kernel
theorem dX7_smokeOf_23 : decode cX7_smokeOf 23 = .ok (.ifCond .lt 33, 3) := by decide +kernel
theorem dX7_smokeOf_26 : decode cX7_smokeOf 26 = .ok (.iload 4, 2) := by decide +kernel
theorem dX7_smokeOf_28 : decode cX7_smokeOf 28 = .ok (.iload_n 2, 1) := by decide +kernel
theorem dX7_smokeOf_29 : decode cX7_smokeOf 29 = .ok (.invokestatic 59, 3) := by decide +kernel
theorem dX7_smokeOf_32 : decode cX7_smokeOf 32 = .ok (.istore 4, 2) := by decide +kernel
theorem dX7_smokeOf_34 : decode cX7_smokeOf 34 = .ok (.iload_n 3, 1) := by decide +kernel
theorem dX7_smokeOf_35 : decode cX7_smokeOf 35 = .ok (.iload 4, 2) := by decide +kernel
theorem dX7_smokeOf_37 : decode cX7_smokeOf 37 = .ok (.ifCond .ge 7, 3) := by decide +kernel
theorem dX7_smokeOf_40 : decode cX7_smokeOf 40 = .ok (.iconst 0, 1) := by decide +kernel
theorem dX7_smokeOf_41 : decode cX7_smokeOf 41 = .ok (.goto 7, 3) := by decide +kernel
theorem dX7_smokeOf_44 : decode cX7_smokeOf 44 = .ok (.iconst 1, 1) := by decide +kernel
theorem dX7_smokeOf_45 : decode cX7_smokeOf 45 = .ok (.iload 4, 2) := by decide +kernel
theorem dX7_smokeOf_47 : decode cX7_smokeOf 47 = .ok (.ishl, 1) := by decide +kernel
theorem dX7_smokeOf_48 : decode cX7_smokeOf 48 = .ok (.ior, 1) := by decide +kernel
theorem dX7_smokeOf_49 : decode cX7_smokeOf 49 = .ok (.istore_n 3, 1) := by decide +kernel
theorem dX7_smokeOf_50 : decode cX7_smokeOf 50 = .ok (.iinc 5 1, 3) := by decide +kernel
theorem dX7_smokeOf_53 : decode cX7_smokeOf 53 = .ok (.goto (-43), 3) := by decide +kernel
theorem dX7_smokeOf_56 : decode cX7_smokeOf 56 = .ok (.iload_n 3, 1) := by decide +kernel
theorem dX7_smokeOf_57 : decode cX7_smokeOf 57 = .ok (.ireturn, 1) := by decide +kernel
theorem dX7_smokeBy_0 : decode cX7_smokeBy 0 = .ok (.iconst 0, 1) := by decide +kernel
theorem dX7_smokeBy_1 : decode cX7_smokeBy 1 = .ok (.istore_n 2, 1) := by decide +kernel
theorem dX7_smokeBy_2 : decode cX7_smokeBy 2 = .ok (.iconst 0, 1) := by decide +kernel
theorem dX7_smokeBy_3 : decode cX7_smokeBy 3 = .ok (.istore_n 3, 1) := by decide +kernel
theorem dX7_smokeBy_4 : decode cX7_smokeBy 4 = .ok (.iload_n 3, 1) := by decide +kernel
theorem dX7_smokeBy_5 : decode cX7_smokeBy 5 = .ok (.bipush 16, 2) := by decide +kernel
theorem dX7_smokeBy_7 : decode cX7_smokeBy 7 = .ok (.if_icmp .ge 36, 3) := by decide +kernel
theorem dX7_smokeBy_10 : decode cX7_smokeBy 10 = .ok (.iload_n 2, 1) := by decide +kernel
theorem dX7_smokeBy_11 : decode cX7_smokeBy 11 = .ok (.aload_n 0, 1) := by decide +kernel
theorem dX7_smokeBy_12 : decode cX7_smokeBy 12 = .ok (.getfield 7, 3) := by decide +kernel
theorem dX7_smokeBy_15 : decode cX7_smokeBy 15 = .ok (.bipush 8, 2) := by decide +kernel
theorem dX7_smokeBy_17 : decode cX7_smokeBy 17 = .ok (.iaload, 1) := by decide +kernel
theorem dX7_smokeBy_18 : decode cX7_smokeBy 18 = .ok (.iload_n 3, 1) := by decide +kernel
theorem dX7_smokeBy_19 : decode cX7_smokeBy 19 = .ok (.invokestatic 62, 3) := by decide +kernel
theorem dX7_smokeBy_22 : decode cX7_smokeBy 22 = .ok (.ifCond .eq 12, 3) := by decide +kernel
theorem dX7_smokeBy_25 : decode cX7_smokeBy 25 = .ok (.aload_n 0, 1) := by decide +kernel
theorem dX7_smokeBy_26 : decode cX7_smokeBy 26 = .ok (.iload_n 3, 1) := by decide +kernel
theorem dX7_smokeBy_27 : decode cX7_smokeBy 27 = .ok (.iload_n 1, 1) := by decide +kernel
theorem dX7_smokeBy_28 : decode cX7_smokeBy 28 = .ok (.invokevirtual 66, 3) := by decide +kernel
theorem dX7_smokeBy_31 : decode cX7_smokeBy 31 = .ok (.goto 4, 3) := by decide +kernel
theorem dX7_smokeBy_34 : decode cX7_smokeBy 34 = .ok (.iconst 0, 1) := by decide +kernel
theorem dX7_smokeBy_35 : decode cX7_smokeBy 35 = .ok (.ior, 1) := by decide +kernel
theorem dX7_smokeBy_36 : decode cX7_smokeBy 36 = .ok (.istore_n 2, 1) := by decide +kernel
theorem dX7_smokeBy_37 : decode cX7_smokeBy 37 = .ok (.iinc 3 1, 3) := by decide +kernel
theorem dX7_smokeBy_40 : decode cX7_smokeBy 40 = .ok (.goto (-36), 3) := by decide +kernel
theorem dX7_smokeBy_43 : decode cX7_smokeBy 43 = .ok (.iload_n 2, 1) := by decide +kernel
theorem dX7_smokeBy_44 : decode cX7_smokeBy 44 = .ok (.ireturn, 1) := by decide +kernel
theorem dX7_smoke_0 : decode cX7_smoke 0 = .ok (.aload_n 0, 1) := by decide +kernel
theorem dX7_smoke_1 : decode cX7_smoke 1 = .ok (.aload_n 0, 1) := by decide +kernel
theorem dX7_smoke_2 : decode cX7_smoke 2 = .ok (.getfield 7, 3) := by decide +kernel
theorem dX7_smoke_5 : decode cX7_smoke 5 = .ok (.iconst 1, 1) := by decide +kernel
theorem dX7_smoke_6 : decode cX7_smoke 6 = .ok (.iaload, 1) := by decide +kernel
theorem dX7_smoke_7 : decode cX7_smoke 7 = .ok (.invokevirtual 69, 3) := by decide +kernel
theorem dX7_smoke_10 : decode cX7_smoke 10 = .ok (.ireturn, 1) := by decide +kernel
theorem dX7_nearCoops_0 : decode cX7_nearCoops 0 = .ok (.aload_n 0, 1) := by decide +kernel
theorem dX7_nearCoops_1 : decode cX7_nearCoops 1 = .ok (.getfield 7, 3) := by decide +kernel
theorem dX7_nearCoops_4 : decode cX7_nearCoops 4 = .ok (.bipush 9, 2) := by decide +kernel
theorem dX7_nearCoops_6 : decode cX7_nearCoops 6 = .ok (.iaload, 1) := by decide +kernel
theorem dX7_nearCoops_7 : decode cX7_nearCoops 7 = .ok (.istore_n 1, 1) := by decide +kernel
theorem dX7_nearCoops_8 : decode cX7_nearCoops 8 = .ok (.iconst 0, 1) := by decide +kernel
theorem dX7_nearCoops_9 : decode cX7_nearCoops 9 = .ok (.istore_n 2, 1) := by decide +kernel
theorem dX7_nearCoops_10 : decode cX7_nearCoops 10 = .ok (.iload_n 2, 1) := by decide +kernel
theorem dX7_nearCoops_11 : decode cX7_nearCoops 11 = .ok (.bipush 16, 2) := by decide +kernel
theorem dX7_nearCoops_13 : decode cX7_nearCoops 13 = .ok (.if_icmp .ge 59, 3) := by decide +kernel
theorem dX7_nearCoops_16 : decode cX7_nearCoops 16 = .ok (.iconst 0, 1) := by decide +kernel
theorem dX7_nearCoops_17 : decode cX7_nearCoops 17 = .ok (.istore_n 3, 1) := by decide +kernel
theorem dX7_nearCoops_18 : decode cX7_nearCoops 18 = .ok (.iload_n 3, 1) := by decide +kernel
theorem dX7_nearCoops_19 : decode cX7_nearCoops 19 = .ok (.iconst 4, 1) := by decide +kernel
theorem dX7_nearCoops_20 : decode cX7_nearCoops 20 = .ok (.if_icmp .ge 46, 3) := by decide +kernel
theorem dX7_nearCoops_23 : decode cX7_nearCoops 23 = .ok (.iload_n 2, 1) := by decide +kernel
theorem dX7_nearCoops_24 : decode cX7_nearCoops 24 = .ok (.iload_n 3, 1) := by decide +kernel
theorem dX7_nearCoops_25 : decode cX7_nearCoops 25 = .ok (.invokestatic 59, 3) := by decide +kernel
theorem dX7_nearCoops_28 : decode cX7_nearCoops 28 = .ok (.istore 4, 2) := by decide +kernel
theorem dX7_nearCoops_30 : decode cX7_nearCoops 30 = .ok (.iload_n 1, 1) := by decide +kernel
theorem dX7_nearCoops_31 : decode cX7_nearCoops 31 = .ok (.iload 4, 2) := by decide +kernel
theorem dX7_nearCoops_33 : decode cX7_nearCoops 33 = .ok (.ifCond .lt 24, 3) := by decide +kernel
theorem dX7_nearCoops_36 : decode cX7_nearCoops 36 = .ok (.aload_n 0, 1) := by decide +kernel
theorem dX7_nearCoops_37 : decode cX7_nearCoops 37 = .ok (.getfield 7, 3) := by decide +kernel
theorem dX7_nearCoops_40 : decode cX7_nearCoops 40 = .ok (.bipush 9, 2) := by decide +kernel
theorem dX7_nearCoops_42 : decode cX7_nearCoops 42 = .ok (.iaload, 1) := by decide +kernel
theorem dX7_nearCoops_43 : decode cX7_nearCoops 43 = .ok (.iload 4, 2) := by decide +kernel
theorem dX7_nearCoops_45 : decode cX7_nearCoops 45 = .ok (.invokestatic 62, 3) := by decide +kernel
theorem dX7_nearCoops_48 : decode cX7_nearCoops 48 = .ok (.ifCond .eq 9, 3) := by decide +kernel
theorem dX7_nearCoops_51 : decode cX7_nearCoops 51 = .ok (.iconst 1, 1) := by decide +kernel
theorem dX7_nearCoops_52 : decode cX7_nearCoops 52 = .ok (.iload_n 2, 1) := by decide +kernel
theorem dX7_nearCoops_53 : decode cX7_nearCoops 53 = .ok (.ishl, 1) := by decide +kernel
theorem dX7_nearCoops_54 : decode cX7_nearCoops 54 = .ok (.goto 4, 3) := by decide +kernel
theorem dX7_nearCoops_57 : decode cX7_nearCoops 57 = .ok (.iconst 0, 1) := by decide +kernel
theorem dX7_nearCoops_58 : decode cX7_nearCoops 58 = .ok (.ior, 1) := by decide +kernel
theorem dX7_nearCoops_59 : decode cX7_nearCoops 59 = .ok (.istore_n 1, 1) := by decide +kernel
theorem dX7_nearCoops_60 : decode cX7_nearCoops 60 = .ok (.iinc 3 1, 3) := by decide +kernel
theorem dX7_nearCoops_63 : decode cX7_nearCoops 63 = .ok (.goto (-45), 3) := by decide +kernel
theorem dX7_nearCoops_66 : decode cX7_nearCoops 66 = .ok (.iinc 2 1, 3) := by decide +kernel
theorem dX7_nearCoops_69 : decode cX7_nearCoops 69 = .ok (.goto (-59), 3) := by decide +kernel
theorem dX7_nearCoops_72 : decode cX7_nearCoops 72 = .ok (.iload_n 1, 1) := by decide +kernel
theorem dX7_nearCoops_73 : decode cX7_nearCoops 73 = .ok (.ireturn, 1) := by decide +kernel
theorem dX7_reasonToHang_0 : decode cX7_reasonToHang 0 = .ok (.aload_n 0, 1) := by decide +kernel
theorem dX7_reasonToHang_1 : decode cX7_reasonToHang 1 = .ok (.iload_n 2, 1) := by decide +kernel
theorem dX7_reasonToHang_2 : decode cX7_reasonToHang 2 = .ok (.iconst 0, 1) := by decide +kernel
theorem dX7_reasonToHang_3 : decode cX7_reasonToHang 3 = .ok (.invokevirtual 52, 3) := by decide +kernel
theorem dX7_reasonToHang_6 : decode cX7_reasonToHang 6 = .ok (.ifCond .ne 5, 3) := by decide +kernel
theorem dX7_reasonToHang_9 : decode cX7_reasonToHang 9 = .ok (.iconst 1, 1) := by decide +kernel
theorem dX7_reasonToHang_10 : decode cX7_reasonToHang 10 = .ok (.ireturn, 1) := by decide +kernel
theorem dX7_reasonToHang_11 : decode cX7_reasonToHang 11 = .ok (.aload_n 0, 1) := by decide +kernel
theorem dX7_reasonToHang_12 : decode cX7_reasonToHang 12 = .ok (.iload_n 2, 1) := by decide +kernel
theorem dX7_reasonToHang_13 : decode cX7_reasonToHang 13 = .ok (.invokevirtual 56, 3) := by decide +kernel
theorem dX7_reasonToHang_16 : decode cX7_reasonToHang 16 = .ok (.ifCond .eq 5, 3) := by decide +kernel
theorem dX7_reasonToHang_19 : decode cX7_reasonToHang 19 = .ok (.iconst 2, 1) := by decide +kernel
theorem dX7_reasonToHang_20 : decode cX7_reasonToHang 20 = .ok (.ireturn, 1) := by decide +kernel
theorem dX7_reasonToHang_21 : decode cX7_reasonToHang 21 = .ok (.aload_n 0, 1) := by decide +kernel
theorem dX7_reasonToHang_22 : decode cX7_reasonToHang 22 = .ok (.iload_n 1, 1) := by decide +kernel
theorem dX7_reasonToHang_23 : decode cX7_reasonToHang 23 = .ok (.iconst 1, 1) := by decide +kernel
theorem dX7_reasonToHang_24 : decode cX7_reasonToHang 24 = .ok (.invokevirtual 72, 3) := by decide +kernel
theorem dX7_reasonToHang_27 : decode cX7_reasonToHang 27 = .ok (.aload_n 0, 1) := by decide +kernel
theorem dX7_reasonToHang_28 : decode cX7_reasonToHang 28 = .ok (.iload_n 2, 1) := by decide +kernel
theorem dX7_reasonToHang_29 : decode cX7_reasonToHang 29 = .ok (.invokevirtual 75, 3) := by decide +kernel
theorem dX7_reasonToHang_32 : decode cX7_reasonToHang 32 = .ok (.iand, 1) := by decide +kernel
theorem dX7_reasonToHang_33 : decode cX7_reasonToHang 33 = .ok (.aload_n 0, 1) := by decide +kernel
theorem dX7_reasonToHang_34 : decode cX7_reasonToHang 34 = .ok (.iload_n 2, 1) := by decide +kernel
theorem dX7_reasonToHang_35 : decode cX7_reasonToHang 35 = .ok (.invokevirtual 75, 3) := by decide +kernel
theorem dX7_reasonToHang_38 : decode cX7_reasonToHang 38 = .ok (.if_icmp .eq 5, 3) := by decide +kernel
theorem dX7_reasonToHang_41 : decode cX7_reasonToHang 41 = .ok (.iconst 3, 1) := by decide +kernel
theorem dX7_reasonToHang_42 : decode cX7_reasonToHang 42 = .ok (.ireturn, 1) := by decide +kernel
theorem dX7_reasonToHang_43 : decode cX7_reasonToHang 43 = .ok (.aload_n 0, 1) := by decide +kernel
theorem dX7_reasonToHang_44 : decode cX7_reasonToHang 44 = .ok (.invokevirtual 78, 3) := by decide +kernel
theorem dX7_reasonToHang_47 : decode cX7_reasonToHang 47 = .ok (.aload_n 0, 1) := by decide +kernel
theorem dX7_reasonToHang_48 : decode cX7_reasonToHang 48 = .ok (.iload_n 2, 1) := by decide +kernel
theorem dX7_reasonToHang_49 : decode cX7_reasonToHang 49 = .ok (.invokevirtual 75, 3) := by decide +kernel
theorem dX7_reasonToHang_52 : decode cX7_reasonToHang 52 = .ok (.iand, 1) := by decide +kernel
theorem dX7_reasonToHang_53 : decode cX7_reasonToHang 53 = .ok (.ifCond .eq 5, 3) := by decide +kernel
theorem dX7_reasonToHang_56 : decode cX7_reasonToHang 56 = .ok (.iconst 4, 1) := by decide +kernel
theorem dX7_reasonToHang_57 : decode cX7_reasonToHang 57 = .ok (.ireturn, 1) := by decide +kernel
theorem dX7_reasonToHang_58 : decode cX7_reasonToHang 58 = .ok (.aload_n 0, 1) := by decide +kernel
theorem dX7_reasonToHang_59 : decode cX7_reasonToHang 59 = .ok (.iload_n 1, 1) := by decide +kernel
theorem dX7_reasonToHang_60 : decode cX7_reasonToHang 60 = .ok (.iconst 2, 1) := by decide +kernel
theorem dX7_reasonToHang_61 : decode cX7_reasonToHang 61 = .ok (.invokevirtual 72, 3) := by decide +kernel
theorem dX7_reasonToHang_64 : decode cX7_reasonToHang 64 = .ok (.ifCond .ne 20, 3) := by decide +kernel
theorem dX7_reasonToHang_67 : decode cX7_reasonToHang 67 = .ok (.aload_n 0, 1) := by decide +kernel
theorem dX7_reasonToHang_68 : decode cX7_reasonToHang 68 = .ok (.invokevirtual 82, 3) := by decide +kernel
theorem dX7_reasonToHang_71 : decode cX7_reasonToHang 71 = .ok (.aload_n 0, 1) := by decide +kernel
theorem dX7_reasonToHang_72 : decode cX7_reasonToHang 72 = .ok (.iload_n 2, 1) := by decide +kernel
theorem dX7_reasonToHang_73 : decode cX7_reasonToHang 73 = .ok (.invokevirtual 75, 3) := by decide +kernel
theorem dX7_reasonToHang_76 : decode cX7_reasonToHang 76 = .ok (.iand, 1) := by decide +kernel
theorem dX7_reasonToHang_77 : decode cX7_reasonToHang 77 = .ok (.ifCond .eq 7, 3) := by decide +kernel
theorem dX7_reasonToHang_80 : decode cX7_reasonToHang 80 = .ok (.iconst 5, 1) := by decide +kernel
theorem dX7_reasonToHang_81 : decode cX7_reasonToHang 81 = .ok (.goto 4, 3) := by decide +kernel
theorem dX7_reasonToHang_84 : decode cX7_reasonToHang 84 = .ok (.iconst 0, 1) := by decide +kernel
theorem dX7_reasonToHang_85 : decode cX7_reasonToHang 85 = .ok (.ireturn, 1) := by decide +kernel
theorem dX7_reasonToWalk_0 : decode cX7_reasonToWalk 0 = .ok (.aload_n 0, 1) := by decide +kernel
theorem dX7_reasonToWalk_1 : decode cX7_reasonToWalk 1 = .ok (.iload_n 2, 1) := by decide +kernel
theorem dX7_reasonToWalk_2 : decode cX7_reasonToWalk 2 = .ok (.iconst 0, 1) := by decide +kernel
theorem dX7_reasonToWalk_3 : decode cX7_reasonToWalk 3 = .ok (.invokevirtual 52, 3) := by decide +kernel
theorem dX7_reasonToWalk_6 : decode cX7_reasonToWalk 6 = .ok (.ifCond .ne 5, 3) := by decide +kernel
theorem dX7_reasonToWalk_9 : decode cX7_reasonToWalk 9 = .ok (.iconst 1, 1) := by decide +kernel
theorem dX7_reasonToWalk_10 : decode cX7_reasonToWalk 10 = .ok (.ireturn, 1) := by decide +kernel
theorem dX7_reasonToWalk_11 : decode cX7_reasonToWalk 11 = .ok (.aload_n 0, 1) := by decide +kernel
theorem dX7_reasonToWalk_12 : decode cX7_reasonToWalk 12 = .ok (.iload_n 2, 1) := by decide +kernel
theorem dX7_reasonToWalk_13 : decode cX7_reasonToWalk 13 = .ok (.iconst 0, 1) := by decide +kernel
theorem dX7_reasonToWalk_14 : decode cX7_reasonToWalk 14 = .ok (.invokevirtual 52, 3) := by decide +kernel
theorem dX7_reasonToWalk_17 : decode cX7_reasonToWalk 17 = .ok (.aload_n 0, 1) := by decide +kernel
theorem dX7_reasonToWalk_18 : decode cX7_reasonToWalk 18 = .ok (.iload_n 1, 1) := by decide +kernel
theorem dX7_reasonToWalk_19 : decode cX7_reasonToWalk 19 = .ok (.iconst 0, 1) := by decide +kernel
theorem dX7_reasonToWalk_20 : decode cX7_reasonToWalk 20 = .ok (.invokevirtual 72, 3) := by decide +kernel
theorem dX7_reasonToWalk_23 : decode cX7_reasonToWalk 23 = .ok (.if_icmp .ge 6, 3) := by decide +kernel
theorem dX7_reasonToWalk_26 : decode cX7_reasonToWalk 26 = .ok (.bipush 8, 2) := by decide +kernel
theorem dX7_reasonToWalk_28 : decode cX7_reasonToWalk 28 = .ok (.ireturn, 1) := by decide +kernel
theorem dX7_reasonToWalk_29 : decode cX7_reasonToWalk 29 = .ok (.aload_n 0, 1) := by decide +kernel
theorem dX7_reasonToWalk_30 : decode cX7_reasonToWalk 30 = .ok (.iload_n 2, 1) := by decide +kernel
theorem dX7_reasonToWalk_31 : decode cX7_reasonToWalk 31 = .ok (.invokevirtual 56, 3) := by decide +kernel
theorem dX7_reasonToWalk_34 : decode cX7_reasonToWalk 34 = .ok (.ifCond .eq 18, 3) := by decide +kernel
theorem dX7_reasonToWalk_37 : decode cX7_reasonToWalk 37 = .ok (.aload_n 0, 1) := by decide +kernel
theorem dX7_reasonToWalk_38 : decode cX7_reasonToWalk 38 = .ok (.iload_n 2, 1) := by decide +kernel
theorem dX7_reasonToWalk_39 : decode cX7_reasonToWalk 39 = .ok (.iconst 1, 1) := by decide +kernel
theorem dX7_reasonToWalk_40 : decode cX7_reasonToWalk 40 = .ok (.invokevirtual 52, 3) := by decide +kernel
theorem dX7_reasonToWalk_43 : decode cX7_reasonToWalk 43 = .ok (.iload_n 1, 1) := by decide +kernel
theorem dX7_reasonToWalk_44 : decode cX7_reasonToWalk 44 = .ok (.iconst 1, 1) := by decide +kernel
theorem dX7_reasonToWalk_45 : decode cX7_reasonToWalk 45 = .ok (.iadd, 1) := by decide +kernel
theorem dX7_reasonToWalk_46 : decode cX7_reasonToWalk 46 = .ok (.if_icmp .eq 6, 3) := by decide +kernel
theorem dX7_reasonToWalk_49 : decode cX7_reasonToWalk 49 = .ok (.bipush 9, 2) := by decide +kernel
theorem dX7_reasonToWalk_51 : decode cX7_reasonToWalk 51 = .ok (.ireturn, 1) := by decide +kernel
theorem dX7_reasonToWalk_52 : decode cX7_reasonToWalk 52 = .ok (.aload_n 0, 1) := by decide +kernel
theorem dX7_reasonToWalk_53 : decode cX7_reasonToWalk 53 = .ok (.iload_n 1, 1) := by decide +kernel
theorem dX7_reasonToWalk_54 : decode cX7_reasonToWalk 54 = .ok (.iconst 1, 1) := by decide +kernel
theorem dX7_reasonToWalk_55 : decode cX7_reasonToWalk 55 = .ok (.invokevirtual 72, 3) := by decide +kernel
theorem dX7_reasonToWalk_58 : decode cX7_reasonToWalk 58 = .ok (.iload_n 2, 1) := by decide +kernel
theorem dX7_reasonToWalk_59 : decode cX7_reasonToWalk 59 = .ok (.iload_n 3, 1) := by decide +kernel
theorem dX7_reasonToWalk_60 : decode cX7_reasonToWalk 60 = .ok (.invokestatic 85, 3) := by decide +kernel
theorem dX7_reasonToWalk_63 : decode cX7_reasonToWalk 63 = .ok (.invokestatic 62, 3) := by decide +kernel
theorem dX7_reasonToWalk_66 : decode cX7_reasonToWalk 66 = .ok (.ifCond .eq 7, 3) := by decide +kernel
theorem dX7_reasonToWalk_69 : decode cX7_reasonToWalk 69 = .ok (.iconst 0, 1) := by decide +kernel
theorem dX7_reasonToWalk_70 : decode cX7_reasonToWalk 70 = .ok (.goto 4, 3) := by decide +kernel
theorem dX7_reasonToWalk_73 : decode cX7_reasonToWalk 73 = .ok (.iconst 3, 1) := by decide +kernel
theorem dX7_reasonToWalk_74 : decode cX7_reasonToWalk 74 = .ok (.ireturn, 1) := by decide +kernel
theorem dX7_refuses_0 : decode cX7_refuses 0 = .ok (.aload_n 0, 1) := by decide +kernel
theorem dX7_refuses_1 : decode cX7_refuses 1 = .ok (.getfield 7, 3) := by decide +kernel
theorem dX7_refuses_4 : decode cX7_refuses 4 = .ok (.bipush 7, 2) := by decide +kernel
theorem dX7_refuses_6 : decode cX7_refuses 6 = .ok (.dup2, 1) := by decide +kernel
theorem dX7_refuses_7 : decode cX7_refuses 7 = .ok (.iaload, 1) := by decide +kernel
theorem dX7_refuses_8 : decode cX7_refuses 8 = .ok (.iconst 1, 1) := by decide +kernel
theorem dX7_refuses_9 : decode cX7_refuses 9 = .ok (.iadd, 1) := by decide +kernel
theorem dX7_refuses_10 : decode cX7_refuses 10 = .ok (.iastore, 1) := by decide +kernel
theorem dX7_refuses_11 : decode cX7_refuses 11 = .ok (.iload_n 1, 1) := by decide +kernel
theorem dX7_refuses_12 : decode cX7_refuses 12 = .ok (.ireturn, 1) := by decide +kernel
theorem dX7_linesNow_0 : decode cX7_linesNow 0 = .ok (.iconst 0, 1) := by decide +kernel
theorem dX7_linesNow_1 : decode cX7_linesNow 1 = .ok (.istore_n 1, 1) := by decide +kernel
theorem dX7_linesNow_2 : decode cX7_linesNow 2 = .ok (.iconst 0, 1) := by decide +kernel
theorem dX7_linesNow_3 : decode cX7_linesNow 3 = .ok (.istore_n 2, 1) := by decide +kernel
theorem dX7_linesNow_4 : decode cX7_linesNow 4 = .ok (.iload_n 2, 1) := by decide +kernel
theorem dX7_linesNow_5 : decode cX7_linesNow 5 = .ok (.bipush 28, 2) := by decide +kernel
theorem dX7_linesNow_7 : decode cX7_linesNow 7 = .ok (.if_icmp .ge 25, 3) := by decide +kernel
theorem dX7_linesNow_10 : decode cX7_linesNow 10 = .ok (.iload_n 1, 1) := by decide +kernel
theorem dX7_linesNow_11 : decode cX7_linesNow 11 = .ok (.aload_n 0, 1) := by decide +kernel
theorem dX7_linesNow_12 : decode cX7_linesNow 12 = .ok (.iload_n 2, 1) := by decide +kernel
theorem dX7_linesNow_13 : decode cX7_linesNow 13 = .ok (.invokevirtual 56, 3) := by decide +kernel
theorem dX7_linesNow_16 : decode cX7_linesNow 16 = .ok (.ifCond .eq 7, 3) := by decide +kernel
theorem dX7_linesNow_19 : decode cX7_linesNow 19 = .ok (.iconst 1, 1) := by decide +kernel
theorem dX7_linesNow_20 : decode cX7_linesNow 20 = .ok (.goto 4, 3) := by decide +kernel
theorem dX7_linesNow_23 : decode cX7_linesNow 23 = .ok (.iconst 0, 1) := by decide +kernel
theorem dX7_linesNow_24 : decode cX7_linesNow 24 = .ok (.iadd, 1) := by decide +kernel
theorem dX7_linesNow_25 : decode cX7_linesNow 25 = .ok (.istore_n 1, 1) := by decide +kernel
theorem dX7_linesNow_26 : decode cX7_linesNow 26 = .ok (.iinc 2 1, 3) := by decide +kernel
theorem dX7_linesNow_29 : decode cX7_linesNow 29 = .ok (.goto (-25), 3) := by decide +kernel
theorem dX7_linesNow_32 : decode cX7_linesNow 32 = .ok (.iload_n 1, 1) := by decide +kernel
theorem dX7_linesNow_33 : decode cX7_linesNow 33 = .ok (.ireturn, 1) := by decide +kernel
theorem dX7_cleanNow_0 : decode cX7_cleanNow 0 = .ok (.iconst 0, 1) := by decide +kernel
theorem dX7_cleanNow_1 : decode cX7_cleanNow 1 = .ok (.istore_n 1, 1) := by decide +kernel
theorem dX7_cleanNow_2 : decode cX7_cleanNow 2 = .ok (.iconst 0, 1) := by decide +kernel
theorem dX7_cleanNow_3 : decode cX7_cleanNow 3 = .ok (.istore_n 2, 1) := by decide +kernel
theorem dX7_cleanNow_4 : decode cX7_cleanNow 4 = .ok (.iload_n 2, 1) := by decide +kernel
theorem dX7_cleanNow_5 : decode cX7_cleanNow 5 = .ok (.bipush 28, 2) := by decide +kernel
theorem dX7_cleanNow_7 : decode cX7_cleanNow 7 = .ok (.if_icmp .ge 25, 3) := by decide +kernel
theorem dX7_cleanNow_10 : decode cX7_cleanNow 10 = .ok (.iload_n 1, 1) := by decide +kernel
theorem dX7_cleanNow_11 : decode cX7_cleanNow 11 = .ok (.aload_n 0, 1) := by decide +kernel
theorem dX7_cleanNow_12 : decode cX7_cleanNow 12 = .ok (.iload_n 2, 1) := by decide +kernel
theorem dX7_cleanNow_13 : decode cX7_cleanNow 13 = .ok (.invokevirtual 88, 3) := by decide +kernel
theorem dX7_cleanNow_16 : decode cX7_cleanNow 16 = .ok (.ifCond .eq 7, 3) := by decide +kernel
theorem dX7_cleanNow_19 : decode cX7_cleanNow 19 = .ok (.iconst 1, 1) := by decide +kernel
theorem dX7_cleanNow_20 : decode cX7_cleanNow 20 = .ok (.goto 4, 3) := by decide +kernel
theorem dX7_cleanNow_23 : decode cX7_cleanNow 23 = .ok (.iconst 0, 1) := by decide +kernel
theorem dX7_cleanNow_24 : decode cX7_cleanNow 24 = .ok (.iadd, 1) := by decide +kernel
theorem dX7_cleanNow_25 : decode cX7_cleanNow 25 = .ok (.istore_n 1, 1) := by decide +kernel
theorem dX7_cleanNow_26 : decode cX7_cleanNow 26 = .ok (.iinc 2 1, 3) := by decide +kernel
theorem dX7_cleanNow_29 : decode cX7_cleanNow 29 = .ok (.goto (-25), 3) := by decide +kernel
theorem dX7_cleanNow_32 : decode cX7_cleanNow 32 = .ok (.iload_n 1, 1) := by decide +kernel
theorem dX7_cleanNow_33 : decode cX7_cleanNow 33 = .ok (.ireturn, 1) := by decide +kernel
theorem dX7_removes_0 : decode cX7_removes 0 = .ok (.aload_n 0, 1) := by decide +kernel
theorem dX7_removes_1 : decode cX7_removes 1 = .ok (.iload_n 1, 1) := by decide +kernel
theorem dX7_removes_2 : decode cX7_removes 2 = .ok (.iconst 1, 1) := by decide +kernel
theorem dX7_removes_3 : decode cX7_removes 3 = .ok (.iconst 0, 1) := by decide +kernel
theorem dX7_removes_4 : decode cX7_removes 4 = .ok (.invokevirtual 91, 3) := by decide +kernel
theorem dX7_removes_7 : decode cX7_removes 7 = .ok (.aload_n 0, 1) := by decide +kernel
theorem dX7_removes_8 : decode cX7_removes 8 = .ok (.iload_n 1, 1) := by decide +kernel
theorem dX7_removes_9 : decode cX7_removes 9 = .ok (.iconst 2, 1) := by decide +kernel
theorem dX7_removes_10 : decode cX7_removes 10 = .ok (.iconst 0, 1) := by decide +kernel
theorem dX7_removes_11 : decode cX7_removes 11 = .ok (.invokevirtual 91, 3) := by decide +kernel
theorem dX7_removes_14 : decode cX7_removes 14 = .ok (.aload_n 0, 1) := by decide +kernel
theorem dX7_removes_15 : decode cX7_removes 15 = .ok (.iload_n 1, 1) := by decide +kernel
theorem dX7_removes_16 : decode cX7_removes 16 = .ok (.iconst 3, 1) := by decide +kernel
theorem dX7_removes_17 : decode cX7_removes 17 = .ok (.iconst 0, 1) := by decide +kernel
theorem dX7_removes_18 : decode cX7_removes 18 = .ok (.invokevirtual 91, 3) := by decide +kernel
theorem dX7_removes_21 : decode cX7_removes 21 = .ok (.return_, 1) := by decide +kernel
theorem dX7_goHang_0 : decode cX7_goHang 0 = .ok (.aload_n 0, 1) := by decide +kernel
theorem dX7_goHang_1 : decode cX7_goHang 1 = .ok (.iload_n 1, 1) := by decide +kernel
theorem dX7_goHang_2 : decode cX7_goHang 2 = .ok (.iload_n 2, 1) := by decide +kernel
theorem dX7_goHang_3 : decode cX7_goHang 3 = .ok (.invokevirtual 95, 3) := by decide +kernel
theorem dX7_goHang_6 : decode cX7_goHang 6 = .ok (.istore_n 3, 1) := by decide +kernel
theorem dX7_goHang_7 : decode cX7_goHang 7 = .ok (.iload_n 3, 1) := by decide +kernel
theorem dX7_goHang_8 : decode cX7_goHang 8 = .ok (.ifCond .le 9, 3) := by decide +kernel
theorem dX7_goHang_11 : decode cX7_goHang 11 = .ok (.aload_n 0, 1) := by decide +kernel
theorem dX7_goHang_12 : decode cX7_goHang 12 = .ok (.iload_n 3, 1) := by decide +kernel
theorem dX7_goHang_13 : decode cX7_goHang 13 = .ok (.invokevirtual 98, 3) := by decide +kernel
theorem dX7_goHang_16 : decode cX7_goHang 16 = .ok (.ireturn, 1) := by decide +kernel
theorem dX7_goHang_17 : decode cX7_goHang 17 = .ok (.aload_n 0, 1) := by decide +kernel
theorem dX7_goHang_18 : decode cX7_goHang 18 = .ok (.iload_n 2, 1) := by decide +kernel
theorem dX7_goHang_19 : decode cX7_goHang 19 = .ok (.invokevirtual 101, 3) := by decide +kernel
theorem dX7_goHang_22 : decode cX7_goHang 22 = .ok (.aload_n 0, 1) := by decide +kernel
theorem dX7_goHang_23 : decode cX7_goHang 23 = .ok (.iload_n 2, 1) := by decide +kernel
theorem dX7_goHang_24 : decode cX7_goHang 24 = .ok (.iconst 1, 1) := by decide +kernel
theorem dX7_goHang_25 : decode cX7_goHang 25 = .ok (.iload_n 1, 1) := by decide +kernel
theorem dX7_goHang_26 : decode cX7_goHang 26 = .ok (.iconst 1, 1) := by decide +kernel
theorem dX7_goHang_27 : decode cX7_goHang 27 = .ok (.iadd, 1) := by decide +kernel
theorem dX7_goHang_28 : decode cX7_goHang 28 = .ok (.invokevirtual 91, 3) := by decide +kernel
theorem dX7_goHang_31 : decode cX7_goHang 31 = .ok (.aload_n 0, 1) := by decide +kernel
theorem dX7_goHang_32 : decode cX7_goHang 32 = .ok (.getfield 7, 3) := by decide +kernel
theorem dX7_goHang_35 : decode cX7_goHang 35 = .ok (.iconst 4, 1) := by decide +kernel
theorem dX7_goHang_36 : decode cX7_goHang 36 = .ok (.dup2, 1) := by decide +kernel
theorem dX7_goHang_37 : decode cX7_goHang 37 = .ok (.iaload, 1) := by decide +kernel
theorem dX7_goHang_38 : decode cX7_goHang 38 = .ok (.iconst 1, 1) := by decide +kernel
theorem dX7_goHang_39 : decode cX7_goHang 39 = .ok (.iadd, 1) := by decide +kernel
theorem dX7_goHang_40 : decode cX7_goHang 40 = .ok (.iastore, 1) := by decide +kernel
theorem dX7_goHang_41 : decode cX7_goHang 41 = .ok (.bipush 10, 2) := by decide +kernel
theorem dX7_goHang_43 : decode cX7_goHang 43 = .ok (.aload_n 0, 1) := by decide +kernel
theorem dX7_goHang_44 : decode cX7_goHang 44 = .ok (.invokevirtual 105, 3) := by decide +kernel
theorem dX7_goHang_47 : decode cX7_goHang 47 = .ok (.iadd, 1) := by decide +kernel
theorem dX7_goHang_48 : decode cX7_goHang 48 = .ok (.ireturn, 1) := by decide +kernel
theorem dX7_goTake_0 : decode cX7_goTake 0 = .ok (.aload_n 0, 1) := by decide +kernel
theorem dX7_goTake_1 : decode cX7_goTake 1 = .ok (.iload_n 2, 1) := by decide +kernel
theorem dX7_goTake_2 : decode cX7_goTake 2 = .ok (.iconst 1, 1) := by decide +kernel
theorem dX7_goTake_3 : decode cX7_goTake 3 = .ok (.invokevirtual 52, 3) := by decide +kernel
theorem dX7_goTake_6 : decode cX7_goTake 6 = .ok (.iload_n 1, 1) := by decide +kernel
theorem dX7_goTake_7 : decode cX7_goTake 7 = .ok (.iconst 1, 1) := by decide +kernel
theorem dX7_goTake_8 : decode cX7_goTake 8 = .ok (.iadd, 1) := by decide +kernel
theorem dX7_goTake_9 : decode cX7_goTake 9 = .ok (.if_icmp .eq 23, 3) := by decide +kernel
theorem dX7_goTake_12 : decode cX7_goTake 12 = .ok (.aload_n 0, 1) := by decide +kernel
theorem dX7_goTake_13 : decode cX7_goTake 13 = .ok (.aload_n 0, 1) := by decide +kernel
theorem dX7_goTake_14 : decode cX7_goTake 14 = .ok (.iload_n 2, 1) := by decide +kernel
theorem dX7_goTake_15 : decode cX7_goTake 15 = .ok (.invokevirtual 56, 3) := by decide +kernel
theorem dX7_goTake_18 : decode cX7_goTake 18 = .ok (.ifCond .eq 8, 3) := by decide +kernel
theorem dX7_goTake_21 : decode cX7_goTake 21 = .ok (.bipush 7, 2) := by decide +kernel
theorem dX7_goTake_23 : decode cX7_goTake 23 = .ok (.goto 5, 3) := by decide +kernel
theorem dX7_goTake_26 : decode cX7_goTake 26 = .ok (.bipush 6, 2) := by decide +kernel
theorem dX7_goTake_28 : decode cX7_goTake 28 = .ok (.invokevirtual 98, 3) := by decide +kernel
theorem dX7_goTake_31 : decode cX7_goTake 31 = .ok (.ireturn, 1) := by decide +kernel
theorem dX7_goTake_32 : decode cX7_goTake 32 = .ok (.bipush 10, 2) := by decide +kernel
theorem dX7_goTake_34 : decode cX7_goTake 34 = .ok (.aload_n 0, 1) := by decide +kernel
theorem dX7_goTake_35 : decode cX7_goTake 35 = .ok (.iload_n 2, 1) := by decide +kernel
theorem dX7_goTake_36 : decode cX7_goTake 36 = .ok (.iconst 2, 1) := by decide +kernel
theorem dX7_goTake_37 : decode cX7_goTake 37 = .ok (.invokevirtual 52, 3) := by decide +kernel
theorem dX7_goTake_40 : decode cX7_goTake 40 = .ok (.iadd, 1) := by decide +kernel
theorem dX7_goTake_41 : decode cX7_goTake 41 = .ok (.aload_n 0, 1) := by decide +kernel
theorem dX7_goTake_42 : decode cX7_goTake 42 = .ok (.iload_n 2, 1) := by decide +kernel
theorem dX7_goTake_43 : decode cX7_goTake 43 = .ok (.iconst 3, 1) := by decide +kernel
theorem dX7_goTake_44 : decode cX7_goTake 44 = .ok (.invokevirtual 52, 3) := by decide +kernel
theorem dX7_goTake_47 : decode cX7_goTake 47 = .ok (.iadd, 1) := by decide +kernel
theorem dX7_goTake_48 : decode cX7_goTake 48 = .ok (.istore_n 3, 1) := by decide +kernel
theorem dX7_goTake_49 : decode cX7_goTake 49 = .ok (.aload_n 0, 1) := by decide +kernel
theorem dX7_goTake_50 : decode cX7_goTake 50 = .ok (.iload_n 2, 1) := by decide +kernel
theorem dX7_goTake_51 : decode cX7_goTake 51 = .ok (.invokevirtual 101, 3) := by decide +kernel
theorem dX7_goTake_54 : decode cX7_goTake 54 = .ok (.aload_n 0, 1) := by decide +kernel
theorem dX7_goTake_55 : decode cX7_goTake 55 = .ok (.getfield 7, 3) := by decide +kernel
theorem dX7_goTake_58 : decode cX7_goTake 58 = .ok (.iconst 5, 1) := by decide +kernel
theorem dX7_goTake_59 : decode cX7_goTake 59 = .ok (.dup2, 1) := by decide +kernel
theorem dX7_goTake_60 : decode cX7_goTake 60 = .ok (.iaload, 1) := by decide +kernel
theorem dX7_goTake_61 : decode cX7_goTake 61 = .ok (.iconst 1, 1) := by decide +kernel
theorem dX7_goTake_62 : decode cX7_goTake 62 = .ok (.iadd, 1) := by decide +kernel
theorem dX7_goTake_63 : decode cX7_goTake 63 = .ok (.iastore, 1) := by decide +kernel
theorem dX7_goTake_64 : decode cX7_goTake 64 = .ok (.iload_n 3, 1) := by decide +kernel
theorem dX7_goTake_65 : decode cX7_goTake 65 = .ok (.ireturn, 1) := by decide +kernel
theorem dX7_goWalk_0 : decode cX7_goWalk 0 = .ok (.aload_n 0, 1) := by decide +kernel
theorem dX7_goWalk_1 : decode cX7_goWalk 1 = .ok (.iload_n 1, 1) := by decide +kernel
theorem dX7_goWalk_2 : decode cX7_goWalk 2 = .ok (.iconst 3, 1) := by decide +kernel
theorem dX7_goWalk_3 : decode cX7_goWalk 3 = .ok (.invokevirtual 72, 3) := by decide +kernel
theorem dX7_goWalk_6 : decode cX7_goWalk 6 = .ok (.istore_n 3, 1) := by decide +kernel
theorem dX7_goWalk_7 : decode cX7_goWalk 7 = .ok (.aload_n 0, 1) := by decide +kernel
theorem dX7_goWalk_8 : decode cX7_goWalk 8 = .ok (.iload_n 1, 1) := by decide +kernel
theorem dX7_goWalk_9 : decode cX7_goWalk 9 = .ok (.iload_n 2, 1) := by decide +kernel
theorem dX7_goWalk_10 : decode cX7_goWalk 10 = .ok (.iload_n 3, 1) := by decide +kernel
theorem dX7_goWalk_11 : decode cX7_goWalk 11 = .ok (.invokevirtual 108, 3) := by decide +kernel
theorem dX7_goWalk_14 : decode cX7_goWalk 14 = .ok (.istore 4, 2) := by decide +kernel
theorem dX7_goWalk_16 : decode cX7_goWalk 16 = .ok (.iload 4, 2) := by decide +kernel
theorem dX7_goWalk_18 : decode cX7_goWalk 18 = .ok (.ifCond .le 10, 3) := by decide +kernel
theorem dX7_goWalk_21 : decode cX7_goWalk 21 = .ok (.aload_n 0, 1) := by decide +kernel
theorem dX7_goWalk_22 : decode cX7_goWalk 22 = .ok (.iload 4, 2) := by decide +kernel
theorem dX7_goWalk_24 : decode cX7_goWalk 24 = .ok (.invokevirtual 98, 3) := by decide +kernel
theorem dX7_goWalk_27 : decode cX7_goWalk 27 = .ok (.ireturn, 1) := by decide +kernel
theorem dX7_goWalk_28 : decode cX7_goWalk 28 = .ok (.aload_n 0, 1) := by decide +kernel
theorem dX7_goWalk_29 : decode cX7_goWalk 29 = .ok (.getfield 7, 3) := by decide +kernel
theorem dX7_goWalk_32 : decode cX7_goWalk 32 = .ok (.bipush 10, 2) := by decide +kernel
theorem dX7_goWalk_34 : decode cX7_goWalk 34 = .ok (.iconst 5, 1) := by decide +kernel
theorem dX7_goWalk_35 : decode cX7_goWalk 35 = .ok (.iload_n 1, 1) := by decide +kernel
theorem dX7_goWalk_36 : decode cX7_goWalk 36 = .ok (.imul, 1) := by decide +kernel
theorem dX7_goWalk_37 : decode cX7_goWalk 37 = .ok (.iadd, 1) := by decide +kernel
theorem dX7_goWalk_38 : decode cX7_goWalk 38 = .ok (.iconst 3, 1) := by decide +kernel
theorem dX7_goWalk_39 : decode cX7_goWalk 39 = .ok (.iadd, 1) := by decide +kernel
theorem dX7_goWalk_40 : decode cX7_goWalk 40 = .ok (.iload_n 2, 1) := by decide +kernel
theorem dX7_goWalk_41 : decode cX7_goWalk 41 = .ok (.iload_n 3, 1) := by decide +kernel
theorem dX7_goWalk_42 : decode cX7_goWalk 42 = .ok (.invokestatic 85, 3) := by decide +kernel
theorem dX7_goWalk_45 : decode cX7_goWalk 45 = .ok (.iastore, 1) := by decide +kernel
theorem dX7_goWalk_46 : decode cX7_goWalk 46 = .ok (.aload_n 0, 1) := by decide +kernel
theorem dX7_goWalk_47 : decode cX7_goWalk 47 = .ok (.getfield 7, 3) := by decide +kernel
theorem dX7_goWalk_50 : decode cX7_goWalk 50 = .ok (.bipush 10, 2) := by decide +kernel
theorem dX7_goWalk_52 : decode cX7_goWalk 52 = .ok (.iconst 5, 1) := by decide +kernel
theorem dX7_goWalk_53 : decode cX7_goWalk 53 = .ok (.iload_n 1, 1) := by decide +kernel
theorem dX7_goWalk_54 : decode cX7_goWalk 54 = .ok (.imul, 1) := by decide +kernel
theorem dX7_goWalk_55 : decode cX7_goWalk 55 = .ok (.iadd, 1) := by decide +kernel
theorem dX7_goWalk_56 : decode cX7_goWalk 56 = .ok (.iconst 4, 1) := by decide +kernel
theorem dX7_goWalk_57 : decode cX7_goWalk 57 = .ok (.iadd, 1) := by decide +kernel
theorem dX7_goWalk_58 : decode cX7_goWalk 58 = .ok (.dup2, 1) := by decide +kernel
theorem dX7_goWalk_59 : decode cX7_goWalk 59 = .ok (.iaload, 1) := by decide +kernel
theorem dX7_goWalk_60 : decode cX7_goWalk 60 = .ok (.iconst 1, 1) := by decide +kernel
theorem dX7_goWalk_61 : decode cX7_goWalk 61 = .ok (.iadd, 1) := by decide +kernel
theorem dX7_goWalk_62 : decode cX7_goWalk 62 = .ok (.iastore, 1) := by decide +kernel
theorem dX7_goWalk_63 : decode cX7_goWalk 63 = .ok (.bipush 10, 2) := by decide +kernel
theorem dX7_goWalk_65 : decode cX7_goWalk 65 = .ok (.aload_n 0, 1) := by decide +kernel
theorem dX7_goWalk_66 : decode cX7_goWalk 66 = .ok (.iload_n 1, 1) := by decide +kernel
theorem dX7_goWalk_67 : decode cX7_goWalk 67 = .ok (.iconst 3, 1) := by decide +kernel
theorem dX7_goWalk_68 : decode cX7_goWalk 68 = .ok (.invokevirtual 72, 3) := by decide +kernel
theorem dX7_goWalk_71 : decode cX7_goWalk 71 = .ok (.iadd, 1) := by decide +kernel
theorem dX7_goWalk_72 : decode cX7_goWalk 72 = .ok (.ireturn, 1) := by decide +kernel
theorem dX7_goChimney_0 : decode cX7_goChimney 0 = .ok (.aload_n 0, 1) := by decide +kernel
theorem dX7_goChimney_1 : decode cX7_goChimney 1 = .ok (.getfield 7, 3) := by decide +kernel
theorem dX7_goChimney_4 : decode cX7_goChimney 4 = .ok (.bipush 8, 2) := by decide +kernel
theorem dX7_goChimney_6 : decode cX7_goChimney 6 = .ok (.dup2, 1) := by decide +kernel
theorem dX7_goChimney_7 : decode cX7_goChimney 7 = .ok (.iaload, 1) := by decide +kernel
theorem dX7_goChimney_8 : decode cX7_goChimney 8 = .ok (.iconst 1, 1) := by decide +kernel
theorem dX7_goChimney_9 : decode cX7_goChimney 9 = .ok (.iload_n 1, 1) := by decide +kernel
theorem dX7_goChimney_10 : decode cX7_goChimney 10 = .ok (.ishl, 1) := by decide +kernel
theorem dX7_goChimney_11 : decode cX7_goChimney 11 = .ok (.ixor, 1) := by decide +kernel
theorem dX7_goChimney_12 : decode cX7_goChimney 12 = .ok (.iastore, 1) := by decide +kernel
theorem dX7_goChimney_13 : decode cX7_goChimney 13 = .ok (.aload_n 0, 1) := by decide +kernel
theorem dX7_goChimney_14 : decode cX7_goChimney 14 = .ok (.invokevirtual 78, 3) := by decide +kernel
theorem dX7_goChimney_17 : decode cX7_goChimney 17 = .ok (.invokestatic 112, 3) := by decide +kernel
theorem dX7_goChimney_20 : decode cX7_goChimney 20 = .ok (.ireturn, 1) := by decide +kernel
theorem dX7_goDay_0 : decode cX7_goDay 0 = .ok (.aload_n 0, 1) := by decide +kernel
theorem dX7_goDay_1 : decode cX7_goDay 1 = .ok (.getfield 7, 3) := by decide +kernel
theorem dX7_goDay_4 : decode cX7_goDay 4 = .ok (.iconst 0, 1) := by decide +kernel
theorem dX7_goDay_5 : decode cX7_goDay 5 = .ok (.dup2, 1) := by decide +kernel
theorem dX7_goDay_6 : decode cX7_goDay 6 = .ok (.iaload, 1) := by decide +kernel
theorem dX7_goDay_7 : decode cX7_goDay 7 = .ok (.iconst 1, 1) := by decide +kernel
theorem dX7_goDay_8 : decode cX7_goDay 8 = .ok (.iadd, 1) := by decide +kernel
theorem dX7_goDay_9 : decode cX7_goDay 9 = .ok (.iastore, 1) := by decide +kernel
theorem dX7_goDay_10 : decode cX7_goDay 10 = .ok (.aload_n 0, 1) := by decide +kernel
theorem dX7_goDay_11 : decode cX7_goDay 11 = .ok (.invokevirtual 78, 3) := by decide +kernel
theorem dX7_goDay_14 : decode cX7_goDay 14 = .ok (.istore_n 1, 1) := by decide +kernel
theorem dX7_goDay_15 : decode cX7_goDay 15 = .ok (.iconst 0, 1) := by decide +kernel
theorem dX7_goDay_16 : decode cX7_goDay 16 = .ok (.istore_n 2, 1) := by decide +kernel
theorem dX7_goDay_17 : decode cX7_goDay 17 = .ok (.iload_n 2, 1) := by decide +kernel
theorem dX7_goDay_18 : decode cX7_goDay 18 = .ok (.bipush 28, 2) := by decide +kernel
theorem dX7_goDay_20 : decode cX7_goDay 20 = .ok (.if_icmp .ge 99, 3) := by decide +kernel
theorem dX7_goDay_23 : decode cX7_goDay 23 = .ok (.aload_n 0, 1) := by decide +kernel
theorem dX7_goDay_24 : decode cX7_goDay 24 = .ok (.iload_n 2, 1) := by decide +kernel
theorem dX7_goDay_25 : decode cX7_goDay 25 = .ok (.invokevirtual 56, 3) := by decide +kernel
theorem dX7_goDay_28 : decode cX7_goDay 28 = .ok (.ifCond .eq 85, 3) := by decide +kernel
theorem dX7_goDay_31 : decode cX7_goDay 31 = .ok (.aload_n 0, 1) := by decide +kernel
theorem dX7_goDay_32 : decode cX7_goDay 32 = .ok (.aload_n 0, 1) := by decide +kernel
theorem dX7_goDay_33 : decode cX7_goDay 33 = .ok (.iload_n 2, 1) := by decide +kernel
theorem dX7_goDay_34 : decode cX7_goDay 34 = .ok (.iconst 1, 1) := by decide +kernel
theorem dX7_goDay_35 : decode cX7_goDay 35 = .ok (.invokevirtual 52, 3) := by decide +kernel
theorem dX7_goDay_38 : decode cX7_goDay 38 = .ok (.iconst 1, 1) := by decide +kernel
theorem dX7_goDay_39 : decode cX7_goDay 39 = .ok (.isub, 1) := by decide +kernel
theorem dX7_goDay_40 : decode cX7_goDay 40 = .ok (.iconst 2, 1) := by decide +kernel
theorem dX7_goDay_41 : decode cX7_goDay 41 = .ok (.invokevirtual 72, 3) := by decide +kernel
theorem dX7_goDay_44 : decode cX7_goDay 44 = .ok (.ifCond .ne 7, 3) := by decide +kernel
theorem dX7_goDay_47 : decode cX7_goDay 47 = .ok (.iconst 1, 1) := by decide +kernel
theorem dX7_goDay_48 : decode cX7_goDay 48 = .ok (.goto 4, 3) := by decide +kernel
theorem dX7_goDay_51 : decode cX7_goDay 51 = .ok (.iconst 0, 1) := by decide +kernel
theorem dX7_goDay_52 : decode cX7_goDay 52 = .ok (.istore_n 3, 1) := by decide +kernel
theorem dX7_goDay_53 : decode cX7_goDay 53 = .ok (.aload_n 0, 1) := by decide +kernel
theorem dX7_goDay_54 : decode cX7_goDay 54 = .ok (.iload_n 2, 1) := by decide +kernel
theorem dX7_goDay_55 : decode cX7_goDay 55 = .ok (.iconst 2, 1) := by decide +kernel
theorem dX7_goDay_56 : decode cX7_goDay 56 = .ok (.aload_n 0, 1) := by decide +kernel
theorem dX7_goDay_57 : decode cX7_goDay 57 = .ok (.iload_n 2, 1) := by decide +kernel
theorem dX7_goDay_58 : decode cX7_goDay 58 = .ok (.iconst 2, 1) := by decide +kernel
theorem dX7_goDay_59 : decode cX7_goDay 59 = .ok (.invokevirtual 52, 3) := by decide +kernel
theorem dX7_goDay_62 : decode cX7_goDay 62 = .ok (.iload_n 1, 1) := by decide +kernel
theorem dX7_goDay_63 : decode cX7_goDay 63 = .ok (.aload_n 0, 1) := by decide +kernel
theorem dX7_goDay_64 : decode cX7_goDay 64 = .ok (.iload_n 2, 1) := by decide +kernel
theorem dX7_goDay_65 : decode cX7_goDay 65 = .ok (.invokevirtual 75, 3) := by decide +kernel
theorem dX7_goDay_68 : decode cX7_goDay 68 = .ok (.iand, 1) := by decide +kernel
theorem dX7_goDay_69 : decode cX7_goDay 69 = .ok (.invokestatic 112, 3) := by decide +kernel
theorem dX7_goDay_72 : decode cX7_goDay 72 = .ok (.iadd, 1) := by decide +kernel
theorem dX7_goDay_73 : decode cX7_goDay 73 = .ok (.invokevirtual 91, 3) := by decide +kernel
theorem dX7_goDay_76 : decode cX7_goDay 76 = .ok (.aload_n 0, 1) := by decide +kernel
theorem dX7_goDay_77 : decode cX7_goDay 77 = .ok (.iload_n 2, 1) := by decide +kernel
theorem dX7_goDay_78 : decode cX7_goDay 78 = .ok (.iconst 3, 1) := by decide +kernel
theorem dX7_goDay_79 : decode cX7_goDay 79 = .ok (.aload_n 0, 1) := by decide +kernel
theorem dX7_goDay_80 : decode cX7_goDay 80 = .ok (.iload_n 2, 1) := by decide +kernel
theorem dX7_goDay_81 : decode cX7_goDay 81 = .ok (.iconst 3, 1) := by decide +kernel
theorem dX7_goDay_82 : decode cX7_goDay 82 = .ok (.invokevirtual 52, 3) := by decide +kernel
theorem dX7_goDay_85 : decode cX7_goDay 85 = .ok (.iload_n 3, 1) := by decide +kernel
theorem dX7_goDay_86 : decode cX7_goDay 86 = .ok (.ifCond .eq 22, 3) := by decide +kernel
theorem dX7_goDay_89 : decode cX7_goDay 89 = .ok (.aload_n 0, 1) := by decide +kernel
theorem dX7_goDay_90 : decode cX7_goDay 90 = .ok (.getfield 7, 3) := by decide +kernel
theorem dX7_goDay_93 : decode cX7_goDay 93 = .ok (.bipush 9, 2) := by decide +kernel
theorem dX7_goDay_95 : decode cX7_goDay 95 = .ok (.iaload, 1) := by decide +kernel
theorem dX7_goDay_96 : decode cX7_goDay 96 = .ok (.aload_n 0, 1) := by decide +kernel
theorem dX7_goDay_97 : decode cX7_goDay 97 = .ok (.iload_n 2, 1) := by decide +kernel
theorem dX7_goDay_98 : decode cX7_goDay 98 = .ok (.invokevirtual 75, 3) := by decide +kernel
theorem dX7_goDay_101 : decode cX7_goDay 101 = .ok (.iand, 1) := by decide +kernel
theorem dX7_goDay_102 : decode cX7_goDay 102 = .ok (.invokestatic 112, 3) := by decide +kernel
theorem dX7_goDay_105 : decode cX7_goDay 105 = .ok (.goto 4, 3) := by decide +kernel
theorem dX7_goDay_108 : decode cX7_goDay 108 = .ok (.iconst 0, 1) := by decide +kernel
theorem dX7_goDay_109 : decode cX7_goDay 109 = .ok (.iadd, 1) := by decide +kernel
theorem dX7_goDay_110 : decode cX7_goDay 110 = .ok (.invokevirtual 91, 3) := by decide +kernel
theorem dX7_goDay_113 : decode cX7_goDay 113 = .ok (.iinc 2 1, 3) := by decide +kernel
theorem dX7_goDay_116 : decode cX7_goDay 116 = .ok (.goto (-99), 3) := by decide +kernel
theorem dX7_goDay_119 : decode cX7_goDay 119 = .ok (.aload_n 0, 1) := by decide +kernel
theorem dX7_goDay_120 : decode cX7_goDay 120 = .ok (.getfield 7, 3) := by decide +kernel
theorem dX7_goDay_123 : decode cX7_goDay 123 = .ok (.iconst 3, 1) := by decide +kernel
theorem dX7_goDay_124 : decode cX7_goDay 124 = .ok (.sipush 421, 3) := by decide +kernel
theorem dX7_goDay_127 : decode cX7_goDay 127 = .ok (.aload_n 0, 1) := by decide +kernel
theorem dX7_goDay_128 : decode cX7_goDay 128 = .ok (.getfield 7, 3) := by decide +kernel
theorem dX7_goDay_131 : decode cX7_goDay 131 = .ok (.iconst 3, 1) := by decide +kernel
theorem dX7_goDay_132 : decode cX7_goDay 132 = .ok (.iaload, 1) := by decide +kernel
theorem dX7_goDay_133 : decode cX7_goDay 133 = .ok (.imul, 1) := by decide +kernel
theorem dX7_goDay_134 : decode cX7_goDay 134 = .ok (.sipush 1663, 3) := by decide +kernel
theorem dX7_goDay_137 : decode cX7_goDay 137 = .ok (.iadd, 1) := by decide +kernel
theorem dX7_goDay_138 : decode cX7_goDay 138 = .ok (.sipush 10000, 3) := by decide +kernel
theorem dX7_goDay_141 : decode cX7_goDay 141 = .ok (.irem, 1) := by decide +kernel
theorem dX7_goDay_142 : decode cX7_goDay 142 = .ok (.iastore, 1) := by decide +kernel
theorem dX7_goDay_143 : decode cX7_goDay 143 = .ok (.aload_n 0, 1) := by decide +kernel
theorem dX7_goDay_144 : decode cX7_goDay 144 = .ok (.getfield 7, 3) := by decide +kernel
theorem dX7_goDay_147 : decode cX7_goDay 147 = .ok (.iconst 1, 1) := by decide +kernel
theorem dX7_goDay_148 : decode cX7_goDay 148 = .ok (.aload_n 0, 1) := by decide +kernel
theorem dX7_goDay_149 : decode cX7_goDay 149 = .ok (.getfield 7, 3) := by decide +kernel
theorem dX7_goDay_152 : decode cX7_goDay 152 = .ok (.iconst 3, 1) := by decide +kernel
theorem dX7_goDay_153 : decode cX7_goDay 153 = .ok (.iaload, 1) := by decide +kernel
theorem dX7_goDay_154 : decode cX7_goDay 154 = .ok (.iconst 4, 1) := by decide +kernel
theorem dX7_goDay_155 : decode cX7_goDay 155 = .ok (.irem, 1) := by decide +kernel
theorem dX7_goDay_156 : decode cX7_goDay 156 = .ok (.ifCond .ne 16, 3) := by decide +kernel
theorem dX7_goDay_159 : decode cX7_goDay 159 = .ok (.aload_n 0, 1) := by decide +kernel
theorem dX7_goDay_160 : decode cX7_goDay 160 = .ok (.getfield 7, 3) := by decide +kernel
theorem dX7_goDay_163 : decode cX7_goDay 163 = .ok (.iconst 1, 1) := by decide +kernel
theorem dX7_goDay_164 : decode cX7_goDay 164 = .ok (.iaload, 1) := by decide +kernel
theorem dX7_goDay_165 : decode cX7_goDay 165 = .ok (.iconst 1, 1) := by decide +kernel
theorem dX7_goDay_166 : decode cX7_goDay 166 = .ok (.iadd, 1) := by decide +kernel
theorem dX7_goDay_167 : decode cX7_goDay 167 = .ok (.iconst 4, 1) := by decide +kernel
theorem dX7_goDay_168 : decode cX7_goDay 168 = .ok (.irem, 1) := by decide +kernel
theorem dX7_goDay_169 : decode cX7_goDay 169 = .ok (.goto 9, 3) := by decide +kernel
theorem dX7_goDay_172 : decode cX7_goDay 172 = .ok (.aload_n 0, 1) := by decide +kernel
theorem dX7_goDay_173 : decode cX7_goDay 173 = .ok (.getfield 7, 3) := by decide +kernel
theorem dX7_goDay_176 : decode cX7_goDay 176 = .ok (.iconst 1, 1) := by decide +kernel
theorem dX7_goDay_177 : decode cX7_goDay 177 = .ok (.iaload, 1) := by decide +kernel
theorem dX7_goDay_178 : decode cX7_goDay 178 = .ok (.iastore, 1) := by decide +kernel
theorem dX7_goDay_179 : decode cX7_goDay 179 = .ok (.aload_n 0, 1) := by decide +kernel
theorem dX7_goDay_180 : decode cX7_goDay 180 = .ok (.invokevirtual 115, 3) := by decide +kernel
theorem dX7_goDay_183 : decode cX7_goDay 183 = .ok (.ireturn, 1) := by decide +kernel
theorem dX7_bears_0 : decode cX7_bears 0 = .ok (.iload_n 1, 1) := by decide +kernel
theorem dX7_bears_1 : decode cX7_bears 1 = .ok (.invokestatic 29, 3) := by decide +kernel
theorem dX7_bears_4 : decode cX7_bears 4 = .ok (.ifCond .eq 13, 3) := by decide +kernel
theorem dX7_bears_7 : decode cX7_bears 7 = .ok (.iload_n 2, 1) := by decide +kernel
theorem dX7_bears_8 : decode cX7_bears 8 = .ok (.iconst 0, 1) := by decide +kernel
theorem dX7_bears_9 : decode cX7_bears 9 = .ok (.bipush 9, 2) := by decide +kernel
theorem dX7_bears_11 : decode cX7_bears 11 = .ok (.invokestatic 41, 3) := by decide +kernel
theorem dX7_bears_14 : decode cX7_bears 14 = .ok (.ifCond .ne 5, 3) := by decide +kernel
theorem dX7_bears_17 : decode cX7_bears 17 = .ok (.iconst (-1), 1) := by decide +kernel
theorem dX7_bears_18 : decode cX7_bears 18 = .ok (.ireturn, 1) := by decide +kernel
theorem dX7_bears_19 : decode cX7_bears 19 = .ok (.aload_n 0, 1) := by decide +kernel
theorem dX7_bears_20 : decode cX7_bears 20 = .ok (.invokevirtual 118, 3) := by decide +kernel
theorem dX7_bears_23 : decode cX7_bears 23 = .ok (.aload_n 0, 1) := by decide +kernel
theorem dX7_bears_24 : decode cX7_bears 24 = .ok (.iload_n 1, 1) := by decide +kernel
theorem dX7_bears_25 : decode cX7_bears 25 = .ok (.iconst 0, 1) := by decide +kernel
theorem dX7_bears_26 : decode cX7_bears 26 = .ok (.invokevirtual 52, 3) := by decide +kernel
theorem dX7_bears_29 : decode cX7_bears 29 = .ok (.istore_n 3, 1) := by decide +kernel
theorem dX7_bears_30 : decode cX7_bears 30 = .ok (.aload_n 0, 1) := by decide +kernel
theorem dX7_bears_31 : decode cX7_bears 31 = .ok (.iload_n 1, 1) := by decide +kernel
theorem dX7_bears_32 : decode cX7_bears 32 = .ok (.iconst 0, 1) := by decide +kernel
theorem dX7_bears_33 : decode cX7_bears 33 = .ok (.iload_n 2, 1) := by decide +kernel
theorem dX7_bears_34 : decode cX7_bears 34 = .ok (.invokevirtual 91, 3) := by decide +kernel
theorem dX7_bears_37 : decode cX7_bears 37 = .ok (.iload_n 2, 1) := by decide +kernel
theorem dX7_bears_38 : decode cX7_bears 38 = .ok (.ifCond .ne 27, 3) := by decide +kernel
theorem dX7_bears_41 : decode cX7_bears 41 = .ok (.aload_n 0, 1) := by decide +kernel
theorem dX7_bears_42 : decode cX7_bears 42 = .ok (.iload_n 1, 1) := by decide +kernel
theorem dX7_bears_43 : decode cX7_bears 43 = .ok (.invokevirtual 56, 3) := by decide +kernel
theorem dX7_bears_46 : decode cX7_bears 46 = .ok (.ifCond .eq 19, 3) := by decide +kernel
theorem dX7_bears_49 : decode cX7_bears 49 = .ok (.aload_n 0, 1) := by decide +kernel
theorem dX7_bears_50 : decode cX7_bears 50 = .ok (.iload_n 1, 1) := by decide +kernel
theorem dX7_bears_51 : decode cX7_bears 51 = .ok (.invokevirtual 101, 3) := by decide +kernel
theorem dX7_bears_54 : decode cX7_bears 54 = .ok (.aload_n 0, 1) := by decide +kernel
theorem dX7_bears_55 : decode cX7_bears 55 = .ok (.getfield 7, 3) := by decide +kernel
theorem dX7_bears_58 : decode cX7_bears 58 = .ok (.bipush 6, 2) := by decide +kernel
theorem dX7_bears_60 : decode cX7_bears 60 = .ok (.dup2, 1) := by decide +kernel
theorem dX7_bears_61 : decode cX7_bears 61 = .ok (.iaload, 1) := by decide +kernel
theorem dX7_bears_62 : decode cX7_bears 62 = .ok (.iconst 1, 1) := by decide +kernel
theorem dX7_bears_63 : decode cX7_bears 63 = .ok (.iadd, 1) := by decide +kernel
theorem dX7_bears_64 : decode cX7_bears 64 = .ok (.iastore, 1) := by decide +kernel
theorem dX7_bears_65 : decode cX7_bears 65 = .ok (.iload_n 3, 1) := by decide +kernel
theorem dX7_bears_66 : decode cX7_bears 66 = .ok (.ireturn, 1) := by decide +kernel
theorem dX7_wind_0 : decode cX7_wind 0 = .ok (.iload_n 1, 1) := by decide +kernel
theorem dX7_wind_1 : decode cX7_wind 1 = .ok (.iconst 0, 1) := by decide +kernel
theorem dX7_wind_2 : decode cX7_wind 2 = .ok (.iconst 3, 1) := by decide +kernel
theorem dX7_wind_3 : decode cX7_wind 3 = .ok (.invokestatic 41, 3) := by decide +kernel
theorem dX7_wind_6 : decode cX7_wind 6 = .ok (.ifCond .ne 5, 3) := by decide +kernel
theorem dX7_wind_9 : decode cX7_wind 9 = .ok (.iconst (-1), 1) := by decide +kernel
theorem dX7_wind_10 : decode cX7_wind 10 = .ok (.ireturn, 1) := by decide +kernel
theorem dX7_wind_11 : decode cX7_wind 11 = .ok (.aload_n 0, 1) := by decide +kernel
theorem dX7_wind_12 : decode cX7_wind 12 = .ok (.invokevirtual 118, 3) := by decide +kernel
theorem dX7_wind_15 : decode cX7_wind 15 = .ok (.aload_n 0, 1) := by decide +kernel
theorem dX7_wind_16 : decode cX7_wind 16 = .ok (.getfield 7, 3) := by decide +kernel
theorem dX7_wind_19 : decode cX7_wind 19 = .ok (.iconst 1, 1) := by decide +kernel
theorem dX7_wind_20 : decode cX7_wind 20 = .ok (.iaload, 1) := by decide +kernel
theorem dX7_wind_21 : decode cX7_wind 21 = .ok (.istore_n 2, 1) := by decide +kernel
theorem dX7_wind_22 : decode cX7_wind 22 = .ok (.aload_n 0, 1) := by decide +kernel
theorem dX7_wind_23 : decode cX7_wind 23 = .ok (.getfield 7, 3) := by decide +kernel
theorem dX7_wind_26 : decode cX7_wind 26 = .ok (.iconst 1, 1) := by decide +kernel
theorem dX7_wind_27 : decode cX7_wind 27 = .ok (.iload_n 1, 1) := by decide +kernel
theorem dX7_wind_28 : decode cX7_wind 28 = .ok (.iastore, 1) := by decide +kernel
theorem dX7_wind_29 : decode cX7_wind 29 = .ok (.iload_n 2, 1) := by decide +kernel
theorem dX7_wind_30 : decode cX7_wind 30 = .ok (.ireturn, 1) := by decide +kernel
theorem dX7_chimney_0 : decode cX7_chimney 0 = .ok (.iload_n 1, 1) := by decide +kernel
theorem dX7_chimney_1 : decode cX7_chimney 1 = .ok (.invokestatic 121, 3) := by decide +kernel
theorem dX7_chimney_4 : decode cX7_chimney 4 = .ok (.ifCond .ne 5, 3) := by decide +kernel
theorem dX7_chimney_7 : decode cX7_chimney 7 = .ok (.iconst (-1), 1) := by decide +kernel
theorem dX7_chimney_8 : decode cX7_chimney 8 = .ok (.ireturn, 1) := by decide +kernel
theorem dX7_chimney_9 : decode cX7_chimney 9 = .ok (.aload_n 0, 1) := by decide +kernel
theorem dX7_chimney_10 : decode cX7_chimney 10 = .ok (.invokevirtual 118, 3) := by decide +kernel
theorem dX7_chimney_13 : decode cX7_chimney 13 = .ok (.aload_n 0, 1) := by decide +kernel
theorem dX7_chimney_14 : decode cX7_chimney 14 = .ok (.iload_n 1, 1) := by decide +kernel
theorem dX7_chimney_15 : decode cX7_chimney 15 = .ok (.invokevirtual 124, 3) := by decide +kernel
theorem dX7_chimney_18 : decode cX7_chimney 18 = .ok (.ireturn, 1) := by decide +kernel
theorem dX7_coop_0 : decode cX7_coop 0 = .ok (.iload_n 1, 1) := by decide +kernel
theorem dX7_coop_1 : decode cX7_coop 1 = .ok (.invokestatic 121, 3) := by decide +kernel
theorem dX7_coop_4 : decode cX7_coop 4 = .ok (.ifCond .ne 5, 3) := by decide +kernel
theorem dX7_coop_7 : decode cX7_coop 7 = .ok (.iconst (-1), 1) := by decide +kernel
theorem dX7_coop_8 : decode cX7_coop 8 = .ok (.ireturn, 1) := by decide +kernel
theorem dX7_coop_9 : decode cX7_coop 9 = .ok (.aload_n 0, 1) := by decide +kernel
theorem dX7_coop_10 : decode cX7_coop 10 = .ok (.invokevirtual 118, 3) := by decide +kernel
theorem dX7_coop_13 : decode cX7_coop 13 = .ok (.aload_n 0, 1) := by decide +kernel
theorem dX7_coop_14 : decode cX7_coop 14 = .ok (.getfield 7, 3) := by decide +kernel
theorem dX7_coop_17 : decode cX7_coop 17 = .ok (.bipush 9, 2) := by decide +kernel
theorem dX7_coop_19 : decode cX7_coop 19 = .ok (.dup2, 1) := by decide +kernel
theorem dX7_coop_20 : decode cX7_coop 20 = .ok (.iaload, 1) := by decide +kernel
theorem dX7_coop_21 : decode cX7_coop 21 = .ok (.iconst 1, 1) := by decide +kernel
theorem dX7_coop_22 : decode cX7_coop 22 = .ok (.iload_n 1, 1) := by decide +kernel
theorem dX7_coop_23 : decode cX7_coop 23 = .ok (.ishl, 1) := by decide +kernel
theorem dX7_coop_24 : decode cX7_coop 24 = .ok (.ixor, 1) := by decide +kernel
theorem dX7_coop_25 : decode cX7_coop 25 = .ok (.iastore, 1) := by decide +kernel
theorem dX7_coop_26 : decode cX7_coop 26 = .ok (.aload_n 0, 1) := by decide +kernel
theorem dX7_coop_27 : decode cX7_coop 27 = .ok (.getfield 7, 3) := by decide +kernel
theorem dX7_coop_30 : decode cX7_coop 30 = .ok (.bipush 9, 2) := by decide +kernel
theorem dX7_coop_32 : decode cX7_coop 32 = .ok (.iaload, 1) := by decide +kernel
theorem dX7_coop_33 : decode cX7_coop 33 = .ok (.invokestatic 112, 3) := by decide +kernel
theorem dX7_coop_36 : decode cX7_coop 36 = .ok (.ireturn, 1) := by decide +kernel
theorem dX7_owner_0 : decode cX7_owner 0 = .ok (.iload_n 1, 1) := by decide +kernel
theorem dX7_owner_1 : decode cX7_owner 1 = .ok (.invokestatic 127, 3) := by decide +kernel
theorem dX7_owner_4 : decode cX7_owner 4 = .ok (.ifCond .eq 23, 3) := by decide +kernel
theorem dX7_owner_7 : decode cX7_owner 7 = .ok (.iload_n 2, 1) := by decide +kernel
theorem dX7_owner_8 : decode cX7_owner 8 = .ok (.iconst 1, 1) := by decide +kernel
theorem dX7_owner_9 : decode cX7_owner 9 = .ok (.bipush 9, 2) := by decide +kernel
theorem dX7_owner_11 : decode cX7_owner 11 = .ok (.invokestatic 41, 3) := by decide +kernel
theorem dX7_owner_14 : decode cX7_owner 14 = .ok (.ifCond .eq 13, 3) := by decide +kernel
theorem dX7_owner_17 : decode cX7_owner 17 = .ok (.iload_n 3, 1) := by decide +kernel
theorem dX7_owner_18 : decode cX7_owner 18 = .ok (.iconst 0, 1) := by decide +kernel
theorem dX7_owner_19 : decode cX7_owner 19 = .ok (.ldc 28, 2) := by decide +kernel
theorem dX7_owner_21 : decode cX7_owner 21 = .ok (.invokestatic 41, 3) := by decide +kernel
theorem dX7_owner_24 : decode cX7_owner 24 = .ok (.ifCond .ne 5, 3) := by decide +kernel
theorem dX7_owner_27 : decode cX7_owner 27 = .ok (.iconst (-1), 1) := by decide +kernel
theorem dX7_owner_28 : decode cX7_owner 28 = .ok (.ireturn, 1) := by decide +kernel
theorem dX7_owner_29 : decode cX7_owner 29 = .ok (.aload_n 0, 1) := by decide +kernel
theorem dX7_owner_30 : decode cX7_owner 30 = .ok (.invokevirtual 118, 3) := by decide +kernel
theorem dX7_owner_33 : decode cX7_owner 33 = .ok (.aload_n 0, 1) := by decide +kernel
theorem dX7_owner_34 : decode cX7_owner 34 = .ok (.iload_n 1, 1) := by decide +kernel
theorem dX7_owner_35 : decode cX7_owner 35 = .ok (.iconst 0, 1) := by decide +kernel
theorem dX7_owner_36 : decode cX7_owner 36 = .ok (.invokevirtual 72, 3) := by decide +kernel
theorem dX7_owner_39 : decode cX7_owner 39 = .ok (.istore 5, 2) := by decide +kernel
theorem dX7_owner_41 : decode cX7_owner 41 = .ok (.aload_n 0, 1) := by decide +kernel
theorem dX7_owner_42 : decode cX7_owner 42 = .ok (.getfield 7, 3) := by decide +kernel
theorem dX7_owner_45 : decode cX7_owner 45 = .ok (.bipush 10, 2) := by decide +kernel
theorem dX7_owner_47 : decode cX7_owner 47 = .ok (.iconst 5, 1) := by decide +kernel
theorem dX7_owner_48 : decode cX7_owner 48 = .ok (.iload_n 1, 1) := by decide +kernel
theorem dX7_owner_49 : decode cX7_owner 49 = .ok (.imul, 1) := by decide +kernel
theorem dX7_owner_50 : decode cX7_owner 50 = .ok (.iadd, 1) := by decide +kernel
theorem dX7_owner_51 : decode cX7_owner 51 = .ok (.iconst 0, 1) := by decide +kernel
theorem dX7_owner_52 : decode cX7_owner 52 = .ok (.iadd, 1) := by decide +kernel
theorem dX7_owner_53 : decode cX7_owner 53 = .ok (.iload_n 2, 1) := by decide +kernel
theorem dX7_owner_54 : decode cX7_owner 54 = .ok (.iastore, 1) := by decide +kernel
theorem dX7_owner_55 : decode cX7_owner 55 = .ok (.aload_n 0, 1) := by decide +kernel
theorem dX7_owner_56 : decode cX7_owner 56 = .ok (.getfield 7, 3) := by decide +kernel
theorem dX7_owner_59 : decode cX7_owner 59 = .ok (.bipush 10, 2) := by decide +kernel
theorem dX7_owner_61 : decode cX7_owner 61 = .ok (.iconst 5, 1) := by decide +kernel
theorem dX7_owner_62 : decode cX7_owner 62 = .ok (.iload_n 1, 1) := by decide +kernel
theorem dX7_owner_63 : decode cX7_owner 63 = .ok (.imul, 1) := by decide +kernel
theorem dX7_owner_64 : decode cX7_owner 64 = .ok (.iadd, 1) := by decide +kernel
theorem dX7_owner_65 : decode cX7_owner 65 = .ok (.iconst 1, 1) := by decide +kernel
theorem dX7_owner_66 : decode cX7_owner 66 = .ok (.iadd, 1) := by decide +kernel
theorem dX7_owner_67 : decode cX7_owner 67 = .ok (.iload_n 3, 1) := by decide +kernel
theorem dX7_owner_68 : decode cX7_owner 68 = .ok (.iastore, 1) := by decide +kernel
theorem dX7_owner_69 : decode cX7_owner 69 = .ok (.aload_n 0, 1) := by decide +kernel
theorem dX7_owner_70 : decode cX7_owner 70 = .ok (.getfield 7, 3) := by decide +kernel
theorem dX7_owner_73 : decode cX7_owner 73 = .ok (.bipush 10, 2) := by decide +kernel
theorem dX7_owner_75 : decode cX7_owner 75 = .ok (.iconst 5, 1) := by decide +kernel
theorem dX7_owner_76 : decode cX7_owner 76 = .ok (.iload_n 1, 1) := by decide +kernel
theorem dX7_owner_77 : decode cX7_owner 77 = .ok (.imul, 1) := by decide +kernel
theorem dX7_owner_78 : decode cX7_owner 78 = .ok (.iadd, 1) := by decide +kernel
theorem dX7_owner_79 : decode cX7_owner 79 = .ok (.iconst 2, 1) := by decide +kernel
theorem dX7_owner_80 : decode cX7_owner 80 = .ok (.iadd, 1) := by decide +kernel
theorem dX7_owner_81 : decode cX7_owner 81 = .ok (.iload 4, 2) := by decide +kernel
theorem dX7_owner_83 : decode cX7_owner 83 = .ok (.ifCond .eq 7, 3) := by decide +kernel
theorem dX7_owner_86 : decode cX7_owner 86 = .ok (.iconst 1, 1) := by decide +kernel
theorem dX7_owner_87 : decode cX7_owner 87 = .ok (.goto 4, 3) := by decide +kernel
theorem dX7_owner_90 : decode cX7_owner 90 = .ok (.iconst 0, 1) := by decide +kernel
theorem dX7_owner_91 : decode cX7_owner 91 = .ok (.iastore, 1) := by decide +kernel
theorem dX7_owner_92 : decode cX7_owner 92 = .ok (.iload 5, 2) := by decide +kernel
theorem dX7_owner_94 : decode cX7_owner 94 = .ok (.ireturn, 1) := by decide +kernel
theorem dX7_reach_0 : decode cX7_reach 0 = .ok (.iload_n 1, 1) := by decide +kernel
theorem dX7_reach_1 : decode cX7_reach 1 = .ok (.iconst 0, 1) := by decide +kernel
theorem dX7_reach_2 : decode cX7_reach 2 = .ok (.iconst 3, 1) := by decide +kernel
theorem dX7_reach_3 : decode cX7_reach 3 = .ok (.invokestatic 41, 3) := by decide +kernel
theorem dX7_reach_6 : decode cX7_reach 6 = .ok (.ifCond .ne 5, 3) := by decide +kernel
theorem dX7_reach_9 : decode cX7_reach 9 = .ok (.iconst (-1), 1) := by decide +kernel
theorem dX7_reach_10 : decode cX7_reach 10 = .ok (.ireturn, 1) := by decide +kernel
theorem dX7_reach_11 : decode cX7_reach 11 = .ok (.aload_n 0, 1) := by decide +kernel
theorem dX7_reach_12 : decode cX7_reach 12 = .ok (.invokevirtual 118, 3) := by decide +kernel
theorem dX7_reach_15 : decode cX7_reach 15 = .ok (.aload_n 0, 1) := by decide +kernel
theorem dX7_reach_16 : decode cX7_reach 16 = .ok (.getfield 7, 3) := by decide +kernel
theorem dX7_reach_19 : decode cX7_reach 19 = .ok (.iconst 2, 1) := by decide +kernel
theorem dX7_reach_20 : decode cX7_reach 20 = .ok (.iaload, 1) := by decide +kernel
theorem dX7_reach_21 : decode cX7_reach 21 = .ok (.istore_n 2, 1) := by decide +kernel
theorem dX7_reach_22 : decode cX7_reach 22 = .ok (.aload_n 0, 1) := by decide +kernel
theorem dX7_reach_23 : decode cX7_reach 23 = .ok (.getfield 7, 3) := by decide +kernel
theorem dX7_reach_26 : decode cX7_reach 26 = .ok (.iconst 2, 1) := by decide +kernel
theorem dX7_reach_27 : decode cX7_reach 27 = .ok (.iload_n 1, 1) := by decide +kernel
theorem dX7_reach_28 : decode cX7_reach 28 = .ok (.iastore, 1) := by decide +kernel
theorem dX7_reach_29 : decode cX7_reach 29 = .ok (.iload_n 2, 1) := by decide +kernel
theorem dX7_reach_30 : decode cX7_reach 30 = .ok (.ireturn, 1) := by decide +kernel
theorem dX7_hang_0 : decode cX7_hang 0 = .ok (.iload_n 1, 1) := by decide +kernel
theorem dX7_hang_1 : decode cX7_hang 1 = .ok (.invokestatic 127, 3) := by decide +kernel
theorem dX7_hang_4 : decode cX7_hang 4 = .ok (.ifCond .eq 10, 3) := by decide +kernel
theorem dX7_hang_7 : decode cX7_hang 7 = .ok (.iload_n 2, 1) := by decide +kernel
theorem dX7_hang_8 : decode cX7_hang 8 = .ok (.invokestatic 29, 3) := by decide +kernel
theorem dX7_hang_11 : decode cX7_hang 11 = .ok (.ifCond .ne 5, 3) := by decide +kernel
theorem dX7_hang_14 : decode cX7_hang 14 = .ok (.iconst (-1), 1) := by decide +kernel
theorem dX7_hang_15 : decode cX7_hang 15 = .ok (.ireturn, 1) := by decide +kernel
theorem dX7_hang_16 : decode cX7_hang 16 = .ok (.aload_n 0, 1) := by decide +kernel
theorem dX7_hang_17 : decode cX7_hang 17 = .ok (.invokevirtual 118, 3) := by decide +kernel
theorem dX7_hang_20 : decode cX7_hang 20 = .ok (.aload_n 0, 1) := by decide +kernel
theorem dX7_hang_21 : decode cX7_hang 21 = .ok (.iload_n 1, 1) := by decide +kernel
theorem dX7_hang_22 : decode cX7_hang 22 = .ok (.iload_n 2, 1) := by decide +kernel
theorem dX7_hang_23 : decode cX7_hang 23 = .ok (.invokevirtual 130, 3) := by decide +kernel
theorem dX7_hang_26 : decode cX7_hang 26 = .ok (.ireturn, 1) := by decide +kernel
theorem dX7_take_0 : decode cX7_take 0 = .ok (.iload_n 1, 1) := by decide +kernel
theorem dX7_take_1 : decode cX7_take 1 = .ok (.invokestatic 127, 3) := by decide +kernel
theorem dX7_take_4 : decode cX7_take 4 = .ok (.ifCond .eq 10, 3) := by decide +kernel
theorem dX7_take_7 : decode cX7_take 7 = .ok (.iload_n 2, 1) := by decide +kernel
theorem dX7_take_8 : decode cX7_take 8 = .ok (.invokestatic 29, 3) := by decide +kernel
theorem dX7_take_11 : decode cX7_take 11 = .ok (.ifCond .ne 5, 3) := by decide +kernel
theorem dX7_take_14 : decode cX7_take 14 = .ok (.iconst (-1), 1) := by decide +kernel
theorem dX7_take_15 : decode cX7_take 15 = .ok (.ireturn, 1) := by decide +kernel
theorem dX7_take_16 : decode cX7_take 16 = .ok (.aload_n 0, 1) := by decide +kernel
theorem dX7_take_17 : decode cX7_take 17 = .ok (.invokevirtual 118, 3) := by decide +kernel
theorem dX7_take_20 : decode cX7_take 20 = .ok (.aload_n 0, 1) := by decide +kernel
theorem dX7_take_21 : decode cX7_take 21 = .ok (.iload_n 1, 1) := by decide +kernel
theorem dX7_take_22 : decode cX7_take 22 = .ok (.iload_n 2, 1) := by decide +kernel
theorem dX7_take_23 : decode cX7_take 23 = .ok (.invokevirtual 133, 3) := by decide +kernel
theorem dX7_take_26 : decode cX7_take 26 = .ok (.ireturn, 1) := by decide +kernel
theorem dX7_walk_0 : decode cX7_walk 0 = .ok (.iload_n 1, 1) := by decide +kernel
theorem dX7_walk_1 : decode cX7_walk 1 = .ok (.invokestatic 127, 3) := by decide +kernel
theorem dX7_walk_4 : decode cX7_walk 4 = .ok (.ifCond .eq 10, 3) := by decide +kernel
theorem dX7_walk_7 : decode cX7_walk 7 = .ok (.iload_n 2, 1) := by decide +kernel
theorem dX7_walk_8 : decode cX7_walk 8 = .ok (.invokestatic 29, 3) := by decide +kernel
theorem dX7_walk_11 : decode cX7_walk 11 = .ok (.ifCond .ne 5, 3) := by decide +kernel
theorem dX7_walk_14 : decode cX7_walk 14 = .ok (.iconst (-1), 1) := by decide +kernel
theorem dX7_walk_15 : decode cX7_walk 15 = .ok (.ireturn, 1) := by decide +kernel
theorem dX7_walk_16 : decode cX7_walk 16 = .ok (.iload_n 2, 1) := by decide +kernel
theorem dX7_walk_17 : decode cX7_walk 17 = .ok (.aload_n 0, 1) := by decide +kernel
theorem dX7_walk_18 : decode cX7_walk 18 = .ok (.iload_n 1, 1) := by decide +kernel
theorem dX7_walk_19 : decode cX7_walk 19 = .ok (.iconst 3, 1) := by decide +kernel
theorem dX7_walk_20 : decode cX7_walk 20 = .ok (.invokevirtual 72, 3) := by decide +kernel
theorem dX7_walk_23 : decode cX7_walk 23 = .ok (.invokestatic 136, 3) := by decide +kernel
theorem dX7_walk_26 : decode cX7_walk 26 = .ok (.ifCond .ne 6, 3) := by decide +kernel
theorem dX7_walk_29 : decode cX7_walk 29 = .ok (.bipush (-2), 2) := by decide +kernel
theorem dX7_walk_31 : decode cX7_walk 31 = .ok (.ireturn, 1) := by decide +kernel
theorem dX7_walk_32 : decode cX7_walk 32 = .ok (.aload_n 0, 1) := by decide +kernel
theorem dX7_walk_33 : decode cX7_walk 33 = .ok (.invokevirtual 118, 3) := by decide +kernel
theorem dX7_walk_36 : decode cX7_walk 36 = .ok (.aload_n 0, 1) := by decide +kernel
theorem dX7_walk_37 : decode cX7_walk 37 = .ok (.iload_n 1, 1) := by decide +kernel
theorem dX7_walk_38 : decode cX7_walk 38 = .ok (.iload_n 2, 1) := by decide +kernel
theorem dX7_walk_39 : decode cX7_walk 39 = .ok (.invokevirtual 139, 3) := by decide +kernel
theorem dX7_walk_42 : decode cX7_walk 42 = .ok (.ireturn, 1) := by decide +kernel
theorem dX7_day_0 : decode cX7_day 0 = .ok (.aload_n 0, 1) := by decide +kernel
theorem dX7_day_1 : decode cX7_day 1 = .ok (.invokevirtual 118, 3) := by decide +kernel
theorem dX7_day_4 : decode cX7_day 4 = .ok (.aload_n 0, 1) := by decide +kernel
theorem dX7_day_5 : decode cX7_day 5 = .ok (.invokevirtual 142, 3) := by decide +kernel
theorem dX7_day_8 : decode cX7_day 8 = .ok (.ireturn, 1) := by decide +kernel
theorem dX7_append_0 : decode cX7_append 0 = .ok (.iload_n 1, 1) := by decide +kernel
theorem dX7_append_1 : decode cX7_append 1 = .ok (.bipush 33, 2) := by decide +kernel
theorem dX7_append_3 : decode cX7_append 3 = .ok (.bipush 126, 2) := by decide +kernel
theorem dX7_append_5 : decode cX7_append 5 = .ok (.invokestatic 41, 3) := by decide +kernel
theorem dX7_append_8 : decode cX7_append 8 = .ok (.ifCond .ne 5, 3) := by decide +kernel
theorem dX7_append_11 : decode cX7_append 11 = .ok (.iconst (-1), 1) := by decide +kernel
theorem dX7_append_12 : decode cX7_append 12 = .ok (.ireturn, 1) := by decide +kernel
theorem dX7_append_13 : decode cX7_append 13 = .ok (.aload_n 0, 1) := by decide +kernel
theorem dX7_append_14 : decode cX7_append 14 = .ok (.getfield 145, 3) := by decide +kernel
theorem dX7_append_17 : decode cX7_append 17 = .ok (.bipush 60, 2) := by decide +kernel
theorem dX7_append_19 : decode cX7_append 19 = .ok (.if_icmp .ne 6, 3) := by decide +kernel
theorem dX7_append_22 : decode cX7_append 22 = .ok (.bipush (-3), 2) := by decide +kernel
theorem dX7_append_24 : decode cX7_append 24 = .ok (.ireturn, 1) := by decide +kernel
theorem dX7_append_25 : decode cX7_append 25 = .ok (.aload_n 0, 1) := by decide +kernel
theorem dX7_append_26 : decode cX7_append 26 = .ok (.getfield 22, 3) := by decide +kernel
theorem dX7_append_29 : decode cX7_append 29 = .ok (.aload_n 0, 1) := by decide +kernel
theorem dX7_append_30 : decode cX7_append 30 = .ok (.getfield 145, 3) := by decide +kernel
theorem dX7_append_33 : decode cX7_append 33 = .ok (.iload_n 1, 1) := by decide +kernel
theorem dX7_append_34 : decode cX7_append 34 = .ok (.iastore, 1) := by decide +kernel
theorem dX7_append_35 : decode cX7_append 35 = .ok (.aload_n 0, 1) := by decide +kernel
theorem dX7_append_36 : decode cX7_append 36 = .ok (.dup, 1) := by decide +kernel
theorem dX7_append_37 : decode cX7_append 37 = .ok (.getfield 145, 3) := by decide +kernel
theorem dX7_append_40 : decode cX7_append 40 = .ok (.iconst 1, 1) := by decide +kernel
theorem dX7_append_41 : decode cX7_append 41 = .ok (.iadd, 1) := by decide +kernel
theorem dX7_append_42 : decode cX7_append 42 = .ok (.putfield 145, 3) := by decide +kernel
theorem dX7_append_45 : decode cX7_append 45 = .ok (.aload_n 0, 1) := by decide +kernel
theorem dX7_append_46 : decode cX7_append 46 = .ok (.getfield 145, 3) := by decide +kernel
theorem dX7_append_49 : decode cX7_append 49 = .ok (.ireturn, 1) := by decide +kernel
theorem dX7_clear_0 : decode cX7_clear 0 = .ok (.aload_n 0, 1) := by decide +kernel
theorem dX7_clear_1 : decode cX7_clear 1 = .ok (.getfield 145, 3) := by decide +kernel
theorem dX7_clear_4 : decode cX7_clear 4 = .ok (.istore_n 1, 1) := by decide +kernel
theorem dX7_clear_5 : decode cX7_clear 5 = .ok (.aload_n 0, 1) := by decide +kernel
theorem dX7_clear_6 : decode cX7_clear 6 = .ok (.iconst 0, 1) := by decide +kernel
theorem dX7_clear_7 : decode cX7_clear 7 = .ok (.putfield 145, 3) := by decide +kernel
theorem dX7_clear_10 : decode cX7_clear 10 = .ok (.iload_n 1, 1) := by decide +kernel
theorem dX7_clear_11 : decode cX7_clear 11 = .ok (.ireturn, 1) := by decide +kernel
theorem dX7_here_0 : decode cX7_here 0 = .ok (.aload_n 0, 1) := by decide +kernel
theorem dX7_here_1 : decode cX7_here 1 = .ok (.getfield 148, 3) := by decide +kernel
theorem dX7_here_4 : decode cX7_here 4 = .ok (.aload_n 0, 1) := by decide +kernel
theorem dX7_here_5 : decode cX7_here 5 = .ok (.getfield 145, 3) := by decide +kernel
theorem dX7_here_8 : decode cX7_here 8 = .ok (.if_icmp .ge 15, 3) := by decide +kernel
theorem dX7_here_11 : decode cX7_here 11 = .ok (.aload_n 0, 1) := by decide +kernel
theorem dX7_here_12 : decode cX7_here 12 = .ok (.getfield 22, 3) := by decide +kernel
theorem dX7_here_15 : decode cX7_here 15 = .ok (.aload_n 0, 1) := by decide +kernel
theorem dX7_here_16 : decode cX7_here 16 = .ok (.getfield 148, 3) := by decide +kernel
theorem dX7_here_19 : decode cX7_here 19 = .ok (.iaload, 1) := by decide +kernel
theorem dX7_here_20 : decode cX7_here 20 = .ok (.goto 4, 3) := by decide +kernel
theorem dX7_here_23 : decode cX7_here 23 = .ok (.iconst 0, 1) := by decide +kernel
theorem dX7_here_24 : decode cX7_here 24 = .ok (.ireturn, 1) := by decide +kernel
theorem dX7_takes_0 : decode cX7_takes 0 = .ok (.aload_n 0, 1) := by decide +kernel
theorem dX7_takes_1 : decode cX7_takes 1 = .ok (.aload_n 0, 1) := by decide +kernel
theorem dX7_takes_2 : decode cX7_takes 2 = .ok (.getfield 151, 3) := by decide +kernel
theorem dX7_takes_5 : decode cX7_takes 5 = .ok (.ifCond .eq 11, 3) := by decide +kernel
theorem dX7_takes_8 : decode cX7_takes 8 = .ok (.iload_n 1, 1) := by decide +kernel
theorem dX7_takes_9 : decode cX7_takes 9 = .ok (.ifCond .eq 7, 3) := by decide +kernel
theorem dX7_takes_12 : decode cX7_takes 12 = .ok (.iconst 1, 1) := by decide +kernel
theorem dX7_takes_13 : decode cX7_takes 13 = .ok (.goto 4, 3) := by decide +kernel
theorem dX7_takes_16 : decode cX7_takes 16 = .ok (.iconst 0, 1) := by decide +kernel
theorem dX7_takes_17 : decode cX7_takes 17 = .ok (.putfield 151, 3) := by decide +kernel
theorem dX7_takes_20 : decode cX7_takes 20 = .ok (.aload_n 0, 1) := by decide +kernel
theorem dX7_takes_21 : decode cX7_takes 21 = .ok (.dup, 1) := by decide +kernel
theorem dX7_takes_22 : decode cX7_takes 22 = .ok (.getfield 148, 3) := by decide +kernel
theorem dX7_takes_25 : decode cX7_takes 25 = .ok (.aload_n 0, 1) := by decide +kernel
theorem dX7_takes_26 : decode cX7_takes 26 = .ok (.getfield 151, 3) := by decide +kernel
theorem dX7_takes_29 : decode cX7_takes 29 = .ok (.ifCond .eq 7, 3) := by decide +kernel
theorem dX7_takes_32 : decode cX7_takes 32 = .ok (.iconst 1, 1) := by decide +kernel
theorem dX7_takes_33 : decode cX7_takes 33 = .ok (.goto 4, 3) := by decide +kernel
theorem dX7_takes_36 : decode cX7_takes 36 = .ok (.iconst 0, 1) := by decide +kernel
theorem dX7_takes_37 : decode cX7_takes 37 = .ok (.iadd, 1) := by decide +kernel
theorem dX7_takes_38 : decode cX7_takes 38 = .ok (.putfield 148, 3) := by decide +kernel
theorem dX7_takes_41 : decode cX7_takes 41 = .ok (.return_, 1) := by decide +kernel
theorem dX7_isNumber_0 : decode cX7_isNumber 0 = .ok (.iload_n 0, 1) := by decide +kernel
theorem dX7_isNumber_1 : decode cX7_isNumber 1 = .ok (.ifCond .eq 10, 3) := by decide +kernel
theorem dX7_isNumber_4 : decode cX7_isNumber 4 = .ok (.iload_n 1, 1) := by decide +kernel
theorem dX7_isNumber_5 : decode cX7_isNumber 5 = .ok (.invokestatic 29, 3) := by decide +kernel
theorem dX7_isNumber_8 : decode cX7_isNumber 8 = .ok (.goto 7, 3) := by decide +kernel
theorem dX7_isNumber_11 : decode cX7_isNumber 11 = .ok (.iload_n 1, 1) := by decide +kernel
theorem dX7_isNumber_12 : decode cX7_isNumber 12 = .ok (.invokestatic 121, 3) := by decide +kernel
theorem dX7_isNumber_15 : decode cX7_isNumber 15 = .ok (.ireturn, 1) := by decide +kernel
theorem dX7_takesNumber_0 : decode cX7_takesNumber 0 = .ok (.aload_n 0, 1) := by decide +kernel
theorem dX7_takesNumber_1 : decode cX7_takesNumber 1 = .ok (.invokevirtual 155, 3) := by decide +kernel
theorem dX7_takesNumber_4 : decode cX7_takesNumber 4 = .ok (.bipush 48, 2) := by decide +kernel
theorem dX7_takesNumber_6 : decode cX7_takesNumber 6 = .ok (.isub, 1) := by decide +kernel
theorem dX7_takesNumber_7 : decode cX7_takesNumber 7 = .ok (.istore_n 2, 1) := by decide +kernel
theorem dX7_takesNumber_8 : decode cX7_takesNumber 8 = .ok (.aload_n 0, 1) := by decide +kernel
theorem dX7_takesNumber_9 : decode cX7_takesNumber 9 = .ok (.iload_n 2, 1) := by decide +kernel
theorem dX7_takesNumber_10 : decode cX7_takesNumber 10 = .ok (.iconst 0, 1) := by decide +kernel
theorem dX7_takesNumber_11 : decode cX7_takesNumber 11 = .ok (.bipush 9, 2) := by decide +kernel
theorem dX7_takesNumber_13 : decode cX7_takesNumber 13 = .ok (.invokestatic 41, 3) := by decide +kernel
theorem dX7_takesNumber_16 : decode cX7_takesNumber 16 = .ok (.ifCond .eq 15, 3) := by decide +kernel
theorem dX7_takesNumber_19 : decode cX7_takesNumber 19 = .ok (.iload_n 1, 1) := by decide +kernel
theorem dX7_takesNumber_20 : decode cX7_takesNumber 20 = .ok (.iload_n 2, 1) := by decide +kernel
theorem dX7_takesNumber_21 : decode cX7_takesNumber 21 = .ok (.invokestatic 158, 3) := by decide +kernel
theorem dX7_takesNumber_24 : decode cX7_takesNumber 24 = .ok (.ifCond .eq 7, 3) := by decide +kernel
theorem dX7_takesNumber_27 : decode cX7_takesNumber 27 = .ok (.iconst 1, 1) := by decide +kernel
theorem dX7_takesNumber_28 : decode cX7_takesNumber 28 = .ok (.goto 4, 3) := by decide +kernel
theorem dX7_takesNumber_31 : decode cX7_takesNumber 31 = .ok (.iconst 0, 1) := by decide +kernel
theorem dX7_takesNumber_32 : decode cX7_takesNumber 32 = .ok (.invokevirtual 162, 3) := by decide +kernel
theorem dX7_takesNumber_35 : decode cX7_takesNumber 35 = .ok (.bipush 10, 2) := by decide +kernel
theorem dX7_takesNumber_37 : decode cX7_takesNumber 37 = .ok (.iload_n 2, 1) := by decide +kernel
theorem dX7_takesNumber_38 : decode cX7_takesNumber 38 = .ok (.imul, 1) := by decide +kernel
theorem dX7_takesNumber_39 : decode cX7_takesNumber 39 = .ok (.aload_n 0, 1) := by decide +kernel
theorem dX7_takesNumber_40 : decode cX7_takesNumber 40 = .ok (.invokevirtual 155, 3) := by decide +kernel
theorem dX7_takesNumber_43 : decode cX7_takesNumber 43 = .ok (.iadd, 1) := by decide +kernel
theorem dX7_takesNumber_44 : decode cX7_takesNumber 44 = .ok (.bipush 48, 2) := by decide +kernel
theorem dX7_takesNumber_46 : decode cX7_takesNumber 46 = .ok (.isub, 1) := by decide +kernel
theorem dX7_takesNumber_47 : decode cX7_takesNumber 47 = .ok (.istore_n 3, 1) := by decide +kernel
theorem dX7_takesNumber_48 : decode cX7_takesNumber 48 = .ok (.aload_n 0, 1) := by decide +kernel
theorem dX7_takesNumber_49 : decode cX7_takesNumber 49 = .ok (.getfield 151, 3) := by decide +kernel
theorem dX7_takesNumber_52 : decode cX7_takesNumber 52 = .ok (.ifCond .eq 41, 3) := by decide +kernel
theorem dX7_takesNumber_55 : decode cX7_takesNumber 55 = .ok (.iload_n 2, 1) := by decide +kernel
theorem dX7_takesNumber_56 : decode cX7_takesNumber 56 = .ok (.ifCond .le 37, 3) := by decide +kernel
theorem dX7_takesNumber_59 : decode cX7_takesNumber 59 = .ok (.aload_n 0, 1) := by decide +kernel
theorem dX7_takesNumber_60 : decode cX7_takesNumber 60 = .ok (.invokevirtual 155, 3) := by decide +kernel
theorem dX7_takesNumber_63 : decode cX7_takesNumber 63 = .ok (.bipush 48, 2) := by decide +kernel
theorem dX7_takesNumber_65 : decode cX7_takesNumber 65 = .ok (.bipush 57, 2) := by decide +kernel
theorem dX7_takesNumber_67 : decode cX7_takesNumber 67 = .ok (.invokestatic 41, 3) := by decide +kernel
theorem dX7_takesNumber_70 : decode cX7_takesNumber 70 = .ok (.ifCond .eq 23, 3) := by decide +kernel
theorem dX7_takesNumber_73 : decode cX7_takesNumber 73 = .ok (.iload_n 1, 1) := by decide +kernel
theorem dX7_takesNumber_74 : decode cX7_takesNumber 74 = .ok (.iload_n 3, 1) := by decide +kernel
theorem dX7_takesNumber_75 : decode cX7_takesNumber 75 = .ok (.invokestatic 158, 3) := by decide +kernel
theorem dX7_takesNumber_78 : decode cX7_takesNumber 78 = .ok (.ifCond .eq 15, 3) := by decide +kernel
theorem dX7_takesNumber_81 : decode cX7_takesNumber 81 = .ok (.aload_n 0, 1) := by decide +kernel
theorem dX7_takesNumber_82 : decode cX7_takesNumber 82 = .ok (.dup, 1) := by decide +kernel
theorem dX7_takesNumber_83 : decode cX7_takesNumber 83 = .ok (.getfield 148, 3) := by decide +kernel
theorem dX7_takesNumber_86 : decode cX7_takesNumber 86 = .ok (.iconst 1, 1) := by decide +kernel
theorem dX7_takesNumber_87 : decode cX7_takesNumber 87 = .ok (.iadd, 1) := by decide +kernel
theorem dX7_takesNumber_88 : decode cX7_takesNumber 88 = .ok (.putfield 148, 3) := by decide +kernel
theorem dX7_takesNumber_91 : decode cX7_takesNumber 91 = .ok (.iload_n 3, 1) := by decide +kernel
theorem dX7_takesNumber_92 : decode cX7_takesNumber 92 = .ok (.ireturn, 1) := by decide +kernel
theorem dX7_takesNumber_93 : decode cX7_takesNumber 93 = .ok (.iload_n 2, 1) := by decide +kernel
theorem dX7_takesNumber_94 : decode cX7_takesNumber 94 = .ok (.ireturn, 1) := by decide +kernel
theorem dX7_takesOrder_0 : decode cX7_takesOrder 0 = .ok (.aload_n 0, 1) := by decide +kernel
theorem dX7_takesOrder_1 : decode cX7_takesOrder 1 = .ok (.aload_n 0, 1) := by decide +kernel
theorem dX7_takesOrder_2 : decode cX7_takesOrder 2 = .ok (.invokevirtual 155, 3) := by decide +kernel
theorem dX7_takesOrder_5 : decode cX7_takesOrder 5 = .ok (.putfield 166, 3) := by decide +kernel
theorem dX7_takesOrder_8 : decode cX7_takesOrder 8 = .ok (.aload_n 0, 1) := by decide +kernel
theorem dX7_takesOrder_9 : decode cX7_takesOrder 9 = .ok (.getfield 166, 3) := by decide +kernel
theorem dX7_takesOrder_12 : decode cX7_takesOrder 12 = .ok (.bipush 104, 2) := by decide +kernel
theorem dX7_takesOrder_14 : decode cX7_takesOrder 14 = .ok (.if_icmp .eq 21, 3) := by decide +kernel
theorem dX7_takesOrder_17 : decode cX7_takesOrder 17 = .ok (.aload_n 0, 1) := by decide +kernel
theorem dX7_takesOrder_18 : decode cX7_takesOrder 18 = .ok (.getfield 166, 3) := by decide +kernel
theorem dX7_takesOrder_21 : decode cX7_takesOrder 21 = .ok (.bipush 116, 2) := by decide +kernel
theorem dX7_takesOrder_23 : decode cX7_takesOrder 23 = .ok (.if_icmp .eq 12, 3) := by decide +kernel
theorem dX7_takesOrder_26 : decode cX7_takesOrder 26 = .ok (.aload_n 0, 1) := by decide +kernel
theorem dX7_takesOrder_27 : decode cX7_takesOrder 27 = .ok (.getfield 166, 3) := by decide +kernel
theorem dX7_takesOrder_30 : decode cX7_takesOrder 30 = .ok (.bipush 119, 2) := by decide +kernel
theorem dX7_takesOrder_32 : decode cX7_takesOrder 32 = .ok (.if_icmp .ne 7, 3) := by decide +kernel
theorem dX7_takesOrder_35 : decode cX7_takesOrder 35 = .ok (.iconst 1, 1) := by decide +kernel
theorem dX7_takesOrder_36 : decode cX7_takesOrder 36 = .ok (.goto 4, 3) := by decide +kernel
theorem dX7_takesOrder_39 : decode cX7_takesOrder 39 = .ok (.iconst 0, 1) := by decide +kernel
theorem dX7_takesOrder_40 : decode cX7_takesOrder 40 = .ok (.istore_n 1, 1) := by decide +kernel
theorem dX7_takesOrder_41 : decode cX7_takesOrder 41 = .ok (.aload_n 0, 1) := by decide +kernel
theorem dX7_takesOrder_42 : decode cX7_takesOrder 42 = .ok (.iload_n 1, 1) := by decide +kernel
theorem dX7_takesOrder_43 : decode cX7_takesOrder 43 = .ok (.ifCond .ne 21, 3) := by decide +kernel
theorem dX7_takesOrder_46 : decode cX7_takesOrder 46 = .ok (.aload_n 0, 1) := by decide +kernel
theorem dX7_takesOrder_47 : decode cX7_takesOrder 47 = .ok (.getfield 166, 3) := by decide +kernel
theorem dX7_takesOrder_50 : decode cX7_takesOrder 50 = .ok (.bipush 99, 2) := by decide +kernel
theorem dX7_takesOrder_52 : decode cX7_takesOrder 52 = .ok (.if_icmp .eq 12, 3) := by decide +kernel
theorem dX7_takesOrder_55 : decode cX7_takesOrder 55 = .ok (.aload_n 0, 1) := by decide +kernel
theorem dX7_takesOrder_56 : decode cX7_takesOrder 56 = .ok (.getfield 166, 3) := by decide +kernel
theorem dX7_takesOrder_59 : decode cX7_takesOrder 59 = .ok (.bipush 100, 2) := by decide +kernel
theorem dX7_takesOrder_61 : decode cX7_takesOrder 61 = .ok (.if_icmp .ne 7, 3) := by decide +kernel
theorem dX7_takesOrder_64 : decode cX7_takesOrder 64 = .ok (.iconst 1, 1) := by decide +kernel
theorem dX7_takesOrder_65 : decode cX7_takesOrder 65 = .ok (.goto 4, 3) := by decide +kernel
theorem dX7_takesOrder_68 : decode cX7_takesOrder 68 = .ok (.iconst 0, 1) := by decide +kernel
theorem dX7_takesOrder_69 : decode cX7_takesOrder 69 = .ok (.invokevirtual 162, 3) := by decide +kernel
theorem dX7_takesOrder_72 : decode cX7_takesOrder 72 = .ok (.iload_n 1, 1) := by decide +kernel
theorem dX7_takesOrder_73 : decode cX7_takesOrder 73 = .ok (.ifCond .eq 52, 3) := by decide +kernel
theorem dX7_takesOrder_76 : decode cX7_takesOrder 76 = .ok (.aload_n 0, 1) := by decide +kernel
theorem dX7_takesOrder_77 : decode cX7_takesOrder 77 = .ok (.aload_n 0, 1) := by decide +kernel
theorem dX7_takesOrder_78 : decode cX7_takesOrder 78 = .ok (.invokevirtual 155, 3) := by decide +kernel
theorem dX7_takesOrder_81 : decode cX7_takesOrder 81 = .ok (.bipush 48, 2) := by decide +kernel
theorem dX7_takesOrder_83 : decode cX7_takesOrder 83 = .ok (.isub, 1) := by decide +kernel
theorem dX7_takesOrder_84 : decode cX7_takesOrder 84 = .ok (.putfield 169, 3) := by decide +kernel
theorem dX7_takesOrder_87 : decode cX7_takesOrder 87 = .ok (.aload_n 0, 1) := by decide +kernel
theorem dX7_takesOrder_88 : decode cX7_takesOrder 88 = .ok (.aload_n 0, 1) := by decide +kernel
theorem dX7_takesOrder_89 : decode cX7_takesOrder 89 = .ok (.getfield 169, 3) := by decide +kernel
theorem dX7_takesOrder_92 : decode cX7_takesOrder 92 = .ok (.invokestatic 127, 3) := by decide +kernel
theorem dX7_takesOrder_95 : decode cX7_takesOrder 95 = .ok (.invokevirtual 162, 3) := by decide +kernel
theorem dX7_takesOrder_98 : decode cX7_takesOrder 98 = .ok (.aload_n 0, 1) := by decide +kernel
theorem dX7_takesOrder_99 : decode cX7_takesOrder 99 = .ok (.aload_n 0, 1) := by decide +kernel
theorem dX7_takesOrder_100 : decode cX7_takesOrder 100 = .ok (.invokevirtual 155, 3) := by decide +kernel
theorem dX7_takesOrder_103 : decode cX7_takesOrder 103 = .ok (.bipush 58, 2) := by decide +kernel
theorem dX7_takesOrder_105 : decode cX7_takesOrder 105 = .ok (.if_icmp .ne 7, 3) := by decide +kernel
theorem dX7_takesOrder_108 : decode cX7_takesOrder 108 = .ok (.iconst 1, 1) := by decide +kernel
theorem dX7_takesOrder_109 : decode cX7_takesOrder 109 = .ok (.goto 4, 3) := by decide +kernel
theorem dX7_takesOrder_112 : decode cX7_takesOrder 112 = .ok (.iconst 0, 1) := by decide +kernel
theorem dX7_takesOrder_113 : decode cX7_takesOrder 113 = .ok (.invokevirtual 162, 3) := by decide +kernel
theorem dX7_takesOrder_116 : decode cX7_takesOrder 116 = .ok (.aload_n 0, 1) := by decide +kernel
theorem dX7_takesOrder_117 : decode cX7_takesOrder 117 = .ok (.aload_n 0, 1) := by decide +kernel
theorem dX7_takesOrder_118 : decode cX7_takesOrder 118 = .ok (.iconst 1, 1) := by decide +kernel
theorem dX7_takesOrder_119 : decode cX7_takesOrder 119 = .ok (.invokevirtual 172, 3) := by decide +kernel
theorem dX7_takesOrder_122 : decode cX7_takesOrder 122 = .ok (.putfield 176, 3) := by decide +kernel
theorem dX7_takesOrder_125 : decode cX7_takesOrder 125 = .ok (.aload_n 0, 1) := by decide +kernel
theorem dX7_takesOrder_126 : decode cX7_takesOrder 126 = .ok (.getfield 166, 3) := by decide +kernel
theorem dX7_takesOrder_129 : decode cX7_takesOrder 129 = .ok (.bipush 99, 2) := by decide +kernel
theorem dX7_takesOrder_131 : decode cX7_takesOrder 131 = .ok (.if_icmp .ne 12, 3) := by decide +kernel
theorem dX7_takesOrder_134 : decode cX7_takesOrder 134 = .ok (.aload_n 0, 1) := by decide +kernel
theorem dX7_takesOrder_135 : decode cX7_takesOrder 135 = .ok (.aload_n 0, 1) := by decide +kernel
theorem dX7_takesOrder_136 : decode cX7_takesOrder 136 = .ok (.iconst 0, 1) := by decide +kernel
theorem dX7_takesOrder_137 : decode cX7_takesOrder 137 = .ok (.invokevirtual 172, 3) := by decide +kernel
theorem dX7_takesOrder_140 : decode cX7_takesOrder 140 = .ok (.putfield 169, 3) := by decide +kernel
theorem dX7_takesOrder_143 : decode cX7_takesOrder 143 = .ok (.return_, 1) := by decide +kernel
theorem dX7_isText_0 : decode cX7_isText 0 = .ok (.aload_n 0, 1) := by decide +kernel
theorem dX7_isText_1 : decode cX7_isText 1 = .ok (.iconst 0, 1) := by decide +kernel
theorem dX7_isText_2 : decode cX7_isText 2 = .ok (.putfield 148, 3) := by decide +kernel
theorem dX7_isText_5 : decode cX7_isText 5 = .ok (.aload_n 0, 1) := by decide +kernel
theorem dX7_isText_6 : decode cX7_isText 6 = .ok (.iconst 1, 1) := by decide +kernel
theorem dX7_isText_7 : decode cX7_isText 7 = .ok (.putfield 151, 3) := by decide +kernel
theorem dX7_isText_10 : decode cX7_isText 10 = .ok (.aload_n 0, 1) := by decide +kernel
theorem dX7_isText_11 : decode cX7_isText 11 = .ok (.invokevirtual 179, 3) := by decide +kernel
theorem dX7_isText_14 : decode cX7_isText 14 = .ok (.aload_n 0, 1) := by decide +kernel
theorem dX7_isText_15 : decode cX7_isText 15 = .ok (.getfield 151, 3) := by decide +kernel
theorem dX7_isText_18 : decode cX7_isText 18 = .ok (.ifCond .eq 46, 3) := by decide +kernel
theorem dX7_isText_21 : decode cX7_isText 21 = .ok (.aload_n 0, 1) := by decide +kernel
theorem dX7_isText_22 : decode cX7_isText 22 = .ok (.getfield 148, 3) := by decide +kernel
theorem dX7_isText_25 : decode cX7_isText 25 = .ok (.aload_n 0, 1) := by decide +kernel
theorem dX7_isText_26 : decode cX7_isText 26 = .ok (.getfield 145, 3) := by decide +kernel
theorem dX7_isText_29 : decode cX7_isText 29 = .ok (.if_icmp .ge 35, 3) := by decide +kernel
theorem dX7_isText_32 : decode cX7_isText 32 = .ok (.aload_n 0, 1) := by decide +kernel
theorem dX7_isText_33 : decode cX7_isText 33 = .ok (.aload_n 0, 1) := by decide +kernel
theorem dX7_isText_34 : decode cX7_isText 34 = .ok (.invokevirtual 155, 3) := by decide +kernel
theorem dX7_isText_37 : decode cX7_isText 37 = .ok (.bipush 44, 2) := by decide +kernel
theorem dX7_isText_39 : decode cX7_isText 39 = .ok (.if_icmp .ne 7, 3) := by decide +kernel
theorem dX7_isText_42 : decode cX7_isText 42 = .ok (.iconst 1, 1) := by decide +kernel
theorem dX7_isText_43 : decode cX7_isText 43 = .ok (.goto 4, 3) := by decide +kernel
theorem dX7_isText_46 : decode cX7_isText 46 = .ok (.iconst 0, 1) := by decide +kernel
theorem dX7_isText_47 : decode cX7_isText 47 = .ok (.invokevirtual 162, 3) := by decide +kernel
theorem dX7_isText_50 : decode cX7_isText 50 = .ok (.aload_n 0, 1) := by decide +kernel
theorem dX7_isText_51 : decode cX7_isText 51 = .ok (.getfield 151, 3) := by decide +kernel
theorem dX7_isText_54 : decode cX7_isText 54 = .ok (.ifCond .eq (-40), 3) := by decide +kernel
theorem dX7_isText_57 : decode cX7_isText 57 = .ok (.aload_n 0, 1) := by decide +kernel
theorem dX7_isText_58 : decode cX7_isText 58 = .ok (.invokevirtual 179, 3) := by decide +kernel
theorem dX7_isText_61 : decode cX7_isText 61 = .ok (.goto (-47), 3) := by decide +kernel
theorem dX7_isText_64 : decode cX7_isText 64 = .ok (.aload_n 0, 1) := by decide +kernel
theorem dX7_isText_65 : decode cX7_isText 65 = .ok (.getfield 151, 3) := by decide +kernel
theorem dX7_isText_68 : decode cX7_isText 68 = .ok (.ireturn, 1) := by decide +kernel
theorem dX7_fault_0 : decode cX7_fault 0 = .ok (.aload_n 0, 1) := by decide +kernel
theorem dX7_fault_1 : decode cX7_fault 1 = .ok (.invokevirtual 182, 3) := by decide +kernel
theorem dX7_fault_4 : decode cX7_fault 4 = .ok (.ifCond .eq 8, 3) := by decide +kernel
theorem dX7_fault_7 : decode cX7_fault 7 = .ok (.bipush (-4), 2) := by decide +kernel
theorem dX7_fault_9 : decode cX7_fault 9 = .ok (.goto 7, 3) := by decide +kernel
theorem dX7_fault_12 : decode cX7_fault 12 = .ok (.aload_n 0, 1) := by decide +kernel
theorem dX7_fault_13 : decode cX7_fault 13 = .ok (.getfield 148, 3) := by decide +kernel
theorem dX7_fault_16 : decode cX7_fault 16 = .ok (.ireturn, 1) := by decide +kernel
theorem dX7_doesOrder_0 : decode cX7_doesOrder 0 = .ok (.aload_n 0, 1) := by decide +kernel
theorem dX7_doesOrder_1 : decode cX7_doesOrder 1 = .ok (.getfield 166, 3) := by decide +kernel
theorem dX7_doesOrder_4 : decode cX7_doesOrder 4 = .ok (.lookupswitch 119 #[(99, 107), (104, 44), (116, 57), (119, 70)], 44) := by decide +kernel
theorem dX7_doesOrder_48 : decode cX7_doesOrder 48 = .ok (.aload_n 0, 1) := by decide +kernel
theorem dX7_doesOrder_49 : decode cX7_doesOrder 49 = .ok (.aload_n 0, 1) := by decide +kernel
theorem dX7_doesOrder_50 : decode cX7_doesOrder 50 = .ok (.getfield 169, 3) := by decide +kernel
theorem dX7_doesOrder_53 : decode cX7_doesOrder 53 = .ok (.aload_n 0, 1) := by decide +kernel
theorem dX7_doesOrder_54 : decode cX7_doesOrder 54 = .ok (.getfield 176, 3) := by decide +kernel
theorem dX7_doesOrder_57 : decode cX7_doesOrder 57 = .ok (.invokevirtual 130, 3) := by decide +kernel
theorem dX7_doesOrder_60 : decode cX7_doesOrder 60 = .ok (.ireturn, 1) := by decide +kernel
theorem dX7_doesOrder_61 : decode cX7_doesOrder 61 = .ok (.aload_n 0, 1) := by decide +kernel
theorem dX7_doesOrder_62 : decode cX7_doesOrder 62 = .ok (.aload_n 0, 1) := by decide +kernel
theorem dX7_doesOrder_63 : decode cX7_doesOrder 63 = .ok (.getfield 169, 3) := by decide +kernel
theorem dX7_doesOrder_66 : decode cX7_doesOrder 66 = .ok (.aload_n 0, 1) := by decide +kernel
theorem dX7_doesOrder_67 : decode cX7_doesOrder 67 = .ok (.getfield 176, 3) := by decide +kernel
theorem dX7_doesOrder_70 : decode cX7_doesOrder 70 = .ok (.invokevirtual 133, 3) := by decide +kernel
theorem dX7_doesOrder_73 : decode cX7_doesOrder 73 = .ok (.ireturn, 1) := by decide +kernel
theorem dX7_doesOrder_74 : decode cX7_doesOrder 74 = .ok (.aload_n 0, 1) := by decide +kernel
theorem dX7_doesOrder_75 : decode cX7_doesOrder 75 = .ok (.getfield 176, 3) := by decide +kernel
theorem dX7_doesOrder_78 : decode cX7_doesOrder 78 = .ok (.aload_n 0, 1) := by decide +kernel
theorem dX7_doesOrder_79 : decode cX7_doesOrder 79 = .ok (.aload_n 0, 1) := by decide +kernel
theorem dX7_doesOrder_80 : decode cX7_doesOrder 80 = .ok (.getfield 169, 3) := by decide +kernel
theorem dX7_doesOrder_83 : decode cX7_doesOrder 83 = .ok (.iconst 3, 1) := by decide +kernel
theorem dX7_doesOrder_84 : decode cX7_doesOrder 84 = .ok (.invokevirtual 72, 3) := by decide +kernel
theorem dX7_doesOrder_87 : decode cX7_doesOrder 87 = .ok (.invokestatic 136, 3) := by decide +kernel
theorem dX7_doesOrder_90 : decode cX7_doesOrder 90 = .ok (.ifCond .eq 18, 3) := by decide +kernel
theorem dX7_doesOrder_93 : decode cX7_doesOrder 93 = .ok (.aload_n 0, 1) := by decide +kernel
theorem dX7_doesOrder_94 : decode cX7_doesOrder 94 = .ok (.aload_n 0, 1) := by decide +kernel
theorem dX7_doesOrder_95 : decode cX7_doesOrder 95 = .ok (.getfield 169, 3) := by decide +kernel
theorem dX7_doesOrder_98 : decode cX7_doesOrder 98 = .ok (.aload_n 0, 1) := by decide +kernel
theorem dX7_doesOrder_99 : decode cX7_doesOrder 99 = .ok (.getfield 176, 3) := by decide +kernel
theorem dX7_doesOrder_102 : decode cX7_doesOrder 102 = .ok (.invokevirtual 139, 3) := by decide +kernel
theorem dX7_doesOrder_105 : decode cX7_doesOrder 105 = .ok (.goto 5, 3) := by decide +kernel
theorem dX7_doesOrder_108 : decode cX7_doesOrder 108 = .ok (.bipush (-2), 2) := by decide +kernel
theorem dX7_doesOrder_110 : decode cX7_doesOrder 110 = .ok (.ireturn, 1) := by decide +kernel
theorem dX7_doesOrder_111 : decode cX7_doesOrder 111 = .ok (.bipush 10, 2) := by decide +kernel
theorem dX7_doesOrder_113 : decode cX7_doesOrder 113 = .ok (.aload_n 0, 1) := by decide +kernel
theorem dX7_doesOrder_114 : decode cX7_doesOrder 114 = .ok (.aload_n 0, 1) := by decide +kernel
theorem dX7_doesOrder_115 : decode cX7_doesOrder 115 = .ok (.getfield 169, 3) := by decide +kernel
theorem dX7_doesOrder_118 : decode cX7_doesOrder 118 = .ok (.invokevirtual 124, 3) := by decide +kernel
theorem dX7_doesOrder_121 : decode cX7_doesOrder 121 = .ok (.iadd, 1) := by decide +kernel
theorem dX7_doesOrder_122 : decode cX7_doesOrder 122 = .ok (.ireturn, 1) := by decide +kernel
theorem dX7_doesOrder_123 : decode cX7_doesOrder 123 = .ok (.bipush 10, 2) := by decide +kernel
theorem dX7_doesOrder_125 : decode cX7_doesOrder 125 = .ok (.aload_n 0, 1) := by decide +kernel
theorem dX7_doesOrder_126 : decode cX7_doesOrder 126 = .ok (.invokevirtual 142, 3) := by decide +kernel
theorem dX7_doesOrder_129 : decode cX7_doesOrder 129 = .ok (.iadd, 1) := by decide +kernel
theorem dX7_doesOrder_130 : decode cX7_doesOrder 130 = .ok (.ireturn, 1) := by decide +kernel
theorem dX7_run_0 : decode cX7_run 0 = .ok (.aload_n 0, 1) := by decide +kernel
theorem dX7_run_1 : decode cX7_run 1 = .ok (.invokevirtual 182, 3) := by decide +kernel
theorem dX7_run_4 : decode cX7_run 4 = .ok (.ifCond .ne 6, 3) := by decide +kernel
theorem dX7_run_7 : decode cX7_run 7 = .ok (.bipush (-2), 2) := by decide +kernel
theorem dX7_run_9 : decode cX7_run 9 = .ok (.ireturn, 1) := by decide +kernel
theorem dX7_run_10 : decode cX7_run 10 = .ok (.aload_n 0, 1) := by decide +kernel
theorem dX7_run_11 : decode cX7_run 11 = .ok (.invokevirtual 118, 3) := by decide +kernel
theorem dX7_run_14 : decode cX7_run 14 = .ok (.aload_n 0, 1) := by decide +kernel
theorem dX7_run_15 : decode cX7_run 15 = .ok (.iconst 0, 1) := by decide +kernel
theorem dX7_run_16 : decode cX7_run 16 = .ok (.putfield 148, 3) := by decide +kernel
theorem dX7_run_19 : decode cX7_run 19 = .ok (.aload_n 0, 1) := by decide +kernel
theorem dX7_run_20 : decode cX7_run 20 = .ok (.iconst 0, 1) := by decide +kernel
theorem dX7_run_21 : decode cX7_run 21 = .ok (.putfield 186, 3) := by decide +kernel
theorem dX7_run_24 : decode cX7_run 24 = .ok (.iconst 0, 1) := by decide +kernel
theorem dX7_run_25 : decode cX7_run 25 = .ok (.istore_n 1, 1) := by decide +kernel
theorem dX7_run_26 : decode cX7_run 26 = .ok (.aload_n 0, 1) := by decide +kernel
theorem dX7_run_27 : decode cX7_run 27 = .ok (.getfield 186, 3) := by decide +kernel
theorem dX7_run_30 : decode cX7_run 30 = .ok (.ifCond .ne 79, 3) := by decide +kernel
theorem dX7_run_33 : decode cX7_run 33 = .ok (.aload_n 0, 1) := by decide +kernel
theorem dX7_run_34 : decode cX7_run 34 = .ok (.getfield 148, 3) := by decide +kernel
theorem dX7_run_37 : decode cX7_run 37 = .ok (.aload_n 0, 1) := by decide +kernel
theorem dX7_run_38 : decode cX7_run 38 = .ok (.getfield 145, 3) := by decide +kernel
theorem dX7_run_41 : decode cX7_run 41 = .ok (.if_icmp .ge 68, 3) := by decide +kernel
theorem dX7_run_44 : decode cX7_run 44 = .ok (.aload_n 0, 1) := by decide +kernel
theorem dX7_run_45 : decode cX7_run 45 = .ok (.getfield 148, 3) := by decide +kernel
theorem dX7_run_48 : decode cX7_run 48 = .ok (.istore_n 2, 1) := by decide +kernel
theorem dX7_run_49 : decode cX7_run 49 = .ok (.aload_n 0, 1) := by decide +kernel
theorem dX7_run_50 : decode cX7_run 50 = .ok (.invokevirtual 179, 3) := by decide +kernel
theorem dX7_run_53 : decode cX7_run 53 = .ok (.aload_n 0, 1) := by decide +kernel
theorem dX7_run_54 : decode cX7_run 54 = .ok (.dup, 1) := by decide +kernel
theorem dX7_run_55 : decode cX7_run 55 = .ok (.getfield 148, 3) := by decide +kernel
theorem dX7_run_58 : decode cX7_run 58 = .ok (.iconst 1, 1) := by decide +kernel
theorem dX7_run_59 : decode cX7_run 59 = .ok (.iadd, 1) := by decide +kernel
theorem dX7_run_60 : decode cX7_run 60 = .ok (.putfield 148, 3) := by decide +kernel
theorem dX7_run_63 : decode cX7_run 63 = .ok (.aload_n 0, 1) := by decide +kernel
theorem dX7_run_64 : decode cX7_run 64 = .ok (.invokevirtual 189, 3) := by decide +kernel
theorem dX7_run_67 : decode cX7_run 67 = .ok (.istore_n 3, 1) := by decide +kernel
theorem dX7_run_68 : decode cX7_run 68 = .ok (.iload_n 3, 1) := by decide +kernel
theorem dX7_run_69 : decode cX7_run 69 = .ok (.bipush 10, 2) := by decide +kernel
theorem dX7_run_71 : decode cX7_run 71 = .ok (.if_icmp .ge 32, 3) := by decide +kernel
theorem dX7_run_74 : decode cX7_run 74 = .ok (.aload_n 0, 1) := by decide +kernel
theorem dX7_run_75 : decode cX7_run 75 = .ok (.iconst 1, 1) := by decide +kernel
theorem dX7_run_76 : decode cX7_run 76 = .ok (.putfield 186, 3) := by decide +kernel
theorem dX7_run_79 : decode cX7_run 79 = .ok (.aload_n 0, 1) := by decide +kernel
theorem dX7_run_80 : decode cX7_run 80 = .ok (.getfield 25, 3) := by decide +kernel
theorem dX7_run_83 : decode cX7_run 83 = .ok (.iconst 0, 1) := by decide +kernel
theorem dX7_run_84 : decode cX7_run 84 = .ok (.iload_n 3, 1) := by decide +kernel
theorem dX7_run_85 : decode cX7_run 85 = .ok (.iastore, 1) := by decide +kernel
theorem dX7_run_86 : decode cX7_run 86 = .ok (.aload_n 0, 1) := by decide +kernel
theorem dX7_run_87 : decode cX7_run 87 = .ok (.getfield 25, 3) := by decide +kernel
theorem dX7_run_90 : decode cX7_run 90 = .ok (.iconst 1, 1) := by decide +kernel
theorem dX7_run_91 : decode cX7_run 91 = .ok (.iload_n 1, 1) := by decide +kernel
theorem dX7_run_92 : decode cX7_run 92 = .ok (.iastore, 1) := by decide +kernel
theorem dX7_run_93 : decode cX7_run 93 = .ok (.aload_n 0, 1) := by decide +kernel
theorem dX7_run_94 : decode cX7_run 94 = .ok (.getfield 25, 3) := by decide +kernel
theorem dX7_run_97 : decode cX7_run 97 = .ok (.iconst 2, 1) := by decide +kernel
theorem dX7_run_98 : decode cX7_run 98 = .ok (.iload_n 2, 1) := by decide +kernel
theorem dX7_run_99 : decode cX7_run 99 = .ok (.iastore, 1) := by decide +kernel
theorem dX7_run_100 : decode cX7_run 100 = .ok (.goto 6, 3) := by decide +kernel
theorem dX7_run_103 : decode cX7_run 103 = .ok (.iinc 1 1, 3) := by decide +kernel
theorem dX7_run_106 : decode cX7_run 106 = .ok (.goto (-80), 3) := by decide +kernel
theorem dX7_run_109 : decode cX7_run 109 = .ok (.aload_n 0, 1) := by decide +kernel
theorem dX7_run_110 : decode cX7_run 110 = .ok (.iconst 0, 1) := by decide +kernel
theorem dX7_run_111 : decode cX7_run 111 = .ok (.putfield 145, 3) := by decide +kernel
theorem dX7_run_114 : decode cX7_run 114 = .ok (.iload_n 1, 1) := by decide +kernel
theorem dX7_run_115 : decode cX7_run 115 = .ok (.ireturn, 1) := by decide +kernel
theorem dX7_why_0 : decode cX7_why 0 = .ok (.iload_n 1, 1) := by decide +kernel
theorem dX7_why_1 : decode cX7_why 1 = .ok (.iconst 0, 1) := by decide +kernel
theorem dX7_why_2 : decode cX7_why 2 = .ok (.iconst 2, 1) := by decide +kernel
theorem dX7_why_3 : decode cX7_why 3 = .ok (.invokestatic 41, 3) := by decide +kernel
theorem dX7_why_6 : decode cX7_why 6 = .ok (.ifCond .ne 5, 3) := by decide +kernel
theorem dX7_why_9 : decode cX7_why 9 = .ok (.iconst (-1), 1) := by decide +kernel
theorem dX7_why_10 : decode cX7_why 10 = .ok (.ireturn, 1) := by decide +kernel
theorem dX7_why_11 : decode cX7_why 11 = .ok (.aload_n 0, 1) := by decide +kernel
theorem dX7_why_12 : decode cX7_why 12 = .ok (.getfield 186, 3) := by decide +kernel
theorem dX7_why_15 : decode cX7_why 15 = .ok (.ifCond .eq 12, 3) := by decide +kernel
theorem dX7_why_18 : decode cX7_why 18 = .ok (.aload_n 0, 1) := by decide +kernel
theorem dX7_why_19 : decode cX7_why 19 = .ok (.getfield 25, 3) := by decide +kernel
theorem dX7_why_22 : decode cX7_why 22 = .ok (.iload_n 1, 1) := by decide +kernel
theorem dX7_why_23 : decode cX7_why 23 = .ok (.iaload, 1) := by decide +kernel
theorem dX7_why_24 : decode cX7_why 24 = .ok (.goto 5, 3) := by decide +kernel
theorem dX7_why_27 : decode cX7_why 27 = .ok (.bipush (-4), 2) := by decide +kernel
theorem dX7_why_29 : decode cX7_why 29 = .ok (.ireturn, 1) := by decide +kernel
theorem dX7_chimneysOver_0 : decode cX7_chimneysOver 0 = .ok (.iconst 0, 1) := by decide +kernel
theorem dX7_chimneysOver_1 : decode cX7_chimneysOver 1 = .ok (.istore_n 2, 1) := by decide +kernel
theorem dX7_chimneysOver_2 : decode cX7_chimneysOver 2 = .ok (.iconst 0, 1) := by decide +kernel
theorem dX7_chimneysOver_3 : decode cX7_chimneysOver 3 = .ok (.istore_n 3, 1) := by decide +kernel
theorem dX7_chimneysOver_4 : decode cX7_chimneysOver 4 = .ok (.iload_n 3, 1) := by decide +kernel
theorem dX7_chimneysOver_5 : decode cX7_chimneysOver 5 = .ok (.bipush 16, 2) := by decide +kernel
theorem dX7_chimneysOver_7 : decode cX7_chimneysOver 7 = .ok (.if_icmp .ge 49, 3) := by decide +kernel
theorem dX7_chimneysOver_10 : decode cX7_chimneysOver 10 = .ok (.iload_n 2, 1) := by decide +kernel
theorem dX7_chimneysOver_11 : decode cX7_chimneysOver 11 = .ok (.aload_n 0, 1) := by decide +kernel
theorem dX7_chimneysOver_12 : decode cX7_chimneysOver 12 = .ok (.getfield 7, 3) := by decide +kernel
theorem dX7_chimneysOver_15 : decode cX7_chimneysOver 15 = .ok (.bipush 8, 2) := by decide +kernel
theorem dX7_chimneysOver_17 : decode cX7_chimneysOver 17 = .ok (.iaload, 1) := by decide +kernel
theorem dX7_chimneysOver_18 : decode cX7_chimneysOver 18 = .ok (.iload_n 3, 1) := by decide +kernel
theorem dX7_chimneysOver_19 : decode cX7_chimneysOver 19 = .ok (.invokestatic 62, 3) := by decide +kernel
theorem dX7_chimneysOver_22 : decode cX7_chimneysOver 22 = .ok (.ifCond .eq 25, 3) := by decide +kernel
theorem dX7_chimneysOver_25 : decode cX7_chimneysOver 25 = .ok (.aload_n 0, 1) := by decide +kernel
theorem dX7_chimneysOver_26 : decode cX7_chimneysOver 26 = .ok (.iload_n 3, 1) := by decide +kernel
theorem dX7_chimneysOver_27 : decode cX7_chimneysOver 27 = .ok (.aload_n 0, 1) := by decide +kernel
theorem dX7_chimneysOver_28 : decode cX7_chimneysOver 28 = .ok (.getfield 7, 3) := by decide +kernel
theorem dX7_chimneysOver_31 : decode cX7_chimneysOver 31 = .ok (.iconst 1, 1) := by decide +kernel
theorem dX7_chimneysOver_32 : decode cX7_chimneysOver 32 = .ok (.iaload, 1) := by decide +kernel
theorem dX7_chimneysOver_33 : decode cX7_chimneysOver 33 = .ok (.invokevirtual 66, 3) := by decide +kernel
theorem dX7_chimneysOver_36 : decode cX7_chimneysOver 36 = .ok (.iload_n 1, 1) := by decide +kernel
theorem dX7_chimneysOver_37 : decode cX7_chimneysOver 37 = .ok (.invokestatic 62, 3) := by decide +kernel
theorem dX7_chimneysOver_40 : decode cX7_chimneysOver 40 = .ok (.ifCond .eq 7, 3) := by decide +kernel
theorem dX7_chimneysOver_43 : decode cX7_chimneysOver 43 = .ok (.iconst 1, 1) := by decide +kernel
theorem dX7_chimneysOver_44 : decode cX7_chimneysOver 44 = .ok (.goto 4, 3) := by decide +kernel
theorem dX7_chimneysOver_47 : decode cX7_chimneysOver 47 = .ok (.iconst 0, 1) := by decide +kernel
theorem dX7_chimneysOver_48 : decode cX7_chimneysOver 48 = .ok (.iadd, 1) := by decide +kernel
theorem dX7_chimneysOver_49 : decode cX7_chimneysOver 49 = .ok (.istore_n 2, 1) := by decide +kernel
theorem dX7_chimneysOver_50 : decode cX7_chimneysOver 50 = .ok (.iinc 3 1, 3) := by decide +kernel
theorem dX7_chimneysOver_53 : decode cX7_chimneysOver 53 = .ok (.goto (-49), 3) := by decide +kernel
theorem dX7_chimneysOver_56 : decode cX7_chimneysOver 56 = .ok (.iload_n 2, 1) := by decide +kernel
theorem dX7_chimneysOver_57 : decode cX7_chimneysOver 57 = .ok (.ireturn, 1) := by decide +kernel
theorem dX7_ownersAt_0 : decode cX7_ownersAt 0 = .ok (.iconst 0, 1) := by decide +kernel
theorem dX7_ownersAt_1 : decode cX7_ownersAt 1 = .ok (.istore_n 2, 1) := by decide +kernel
theorem dX7_ownersAt_2 : decode cX7_ownersAt 2 = .ok (.iconst 0, 1) := by decide +kernel
theorem dX7_ownersAt_3 : decode cX7_ownersAt 3 = .ok (.istore_n 3, 1) := by decide +kernel
theorem dX7_ownersAt_4 : decode cX7_ownersAt 4 = .ok (.iload_n 3, 1) := by decide +kernel
theorem dX7_ownersAt_5 : decode cX7_ownersAt 5 = .ok (.iconst 4, 1) := by decide +kernel
theorem dX7_ownersAt_6 : decode cX7_ownersAt 6 = .ok (.if_icmp .ge 29, 3) := by decide +kernel
theorem dX7_ownersAt_9 : decode cX7_ownersAt 9 = .ok (.iload_n 2, 1) := by decide +kernel
theorem dX7_ownersAt_10 : decode cX7_ownersAt 10 = .ok (.aload_n 0, 1) := by decide +kernel
theorem dX7_ownersAt_11 : decode cX7_ownersAt 11 = .ok (.iload_n 3, 1) := by decide +kernel
theorem dX7_ownersAt_12 : decode cX7_ownersAt 12 = .ok (.iconst 3, 1) := by decide +kernel
theorem dX7_ownersAt_13 : decode cX7_ownersAt 13 = .ok (.invokevirtual 72, 3) := by decide +kernel
theorem dX7_ownersAt_16 : decode cX7_ownersAt 16 = .ok (.iload_n 1, 1) := by decide +kernel
theorem dX7_ownersAt_17 : decode cX7_ownersAt 17 = .ok (.if_icmp .ne 9, 3) := by decide +kernel
theorem dX7_ownersAt_20 : decode cX7_ownersAt 20 = .ok (.iconst 1, 1) := by decide +kernel
theorem dX7_ownersAt_21 : decode cX7_ownersAt 21 = .ok (.iload_n 3, 1) := by decide +kernel
theorem dX7_ownersAt_22 : decode cX7_ownersAt 22 = .ok (.ishl, 1) := by decide +kernel
theorem dX7_ownersAt_23 : decode cX7_ownersAt 23 = .ok (.goto 4, 3) := by decide +kernel
theorem dX7_ownersAt_26 : decode cX7_ownersAt 26 = .ok (.iconst 0, 1) := by decide +kernel
theorem dX7_ownersAt_27 : decode cX7_ownersAt 27 = .ok (.ior, 1) := by decide +kernel
theorem dX7_ownersAt_28 : decode cX7_ownersAt 28 = .ok (.istore_n 2, 1) := by decide +kernel
theorem dX7_ownersAt_29 : decode cX7_ownersAt 29 = .ok (.iinc 3 1, 3) := by decide +kernel
theorem dX7_ownersAt_32 : decode cX7_ownersAt 32 = .ok (.goto (-28), 3) := by decide +kernel
theorem dX7_ownersAt_35 : decode cX7_ownersAt 35 = .ok (.iload_n 2, 1) := by decide +kernel
theorem dX7_ownersAt_36 : decode cX7_ownersAt 36 = .ok (.ireturn, 1) := by decide +kernel
theorem dX7_strongAt_0 : decode cX7_strongAt 0 = .ok (.iconst 0, 1) := by decide +kernel
theorem dX7_strongAt_1 : decode cX7_strongAt 1 = .ok (.istore_n 2, 1) := by decide +kernel
theorem dX7_strongAt_2 : decode cX7_strongAt 2 = .ok (.iconst 0, 1) := by decide +kernel
theorem dX7_strongAt_3 : decode cX7_strongAt 3 = .ok (.istore_n 3, 1) := by decide +kernel
theorem dX7_strongAt_4 : decode cX7_strongAt 4 = .ok (.iload_n 3, 1) := by decide +kernel
theorem dX7_strongAt_5 : decode cX7_strongAt 5 = .ok (.bipush 28, 2) := by decide +kernel
theorem dX7_strongAt_7 : decode cX7_strongAt 7 = .ok (.if_icmp .ge 34, 3) := by decide +kernel
theorem dX7_strongAt_10 : decode cX7_strongAt 10 = .ok (.iload_n 2, 1) := by decide +kernel
theorem dX7_strongAt_11 : decode cX7_strongAt 11 = .ok (.iload_n 3, 1) := by decide +kernel
theorem dX7_strongAt_12 : decode cX7_strongAt 12 = .ok (.iload_n 1, 1) := by decide +kernel
theorem dX7_strongAt_13 : decode cX7_strongAt 13 = .ok (.invokestatic 136, 3) := by decide +kernel
theorem dX7_strongAt_16 : decode cX7_strongAt 16 = .ok (.ifCond .eq 16, 3) := by decide +kernel
theorem dX7_strongAt_19 : decode cX7_strongAt 19 = .ok (.aload_n 0, 1) := by decide +kernel
theorem dX7_strongAt_20 : decode cX7_strongAt 20 = .ok (.iload_n 3, 1) := by decide +kernel
theorem dX7_strongAt_21 : decode cX7_strongAt 21 = .ok (.iconst 0, 1) := by decide +kernel
theorem dX7_strongAt_22 : decode cX7_strongAt 22 = .ok (.invokevirtual 52, 3) := by decide +kernel
theorem dX7_strongAt_25 : decode cX7_strongAt 25 = .ok (.ifCond .le 7, 3) := by decide +kernel
theorem dX7_strongAt_28 : decode cX7_strongAt 28 = .ok (.iconst 1, 1) := by decide +kernel
theorem dX7_strongAt_29 : decode cX7_strongAt 29 = .ok (.goto 4, 3) := by decide +kernel
theorem dX7_strongAt_32 : decode cX7_strongAt 32 = .ok (.iconst 0, 1) := by decide +kernel
theorem dX7_strongAt_33 : decode cX7_strongAt 33 = .ok (.iadd, 1) := by decide +kernel
theorem dX7_strongAt_34 : decode cX7_strongAt 34 = .ok (.istore_n 2, 1) := by decide +kernel
theorem dX7_strongAt_35 : decode cX7_strongAt 35 = .ok (.iinc 3 1, 3) := by decide +kernel
theorem dX7_strongAt_38 : decode cX7_strongAt 38 = .ok (.goto (-34), 3) := by decide +kernel
theorem dX7_strongAt_41 : decode cX7_strongAt 41 = .ok (.iload_n 2, 1) := by decide +kernel
theorem dX7_strongAt_42 : decode cX7_strongAt 42 = .ok (.ireturn, 1) := by decide +kernel
theorem dX7_linesAt_0 : decode cX7_linesAt 0 = .ok (.iconst 0, 1) := by decide +kernel
theorem dX7_linesAt_1 : decode cX7_linesAt 1 = .ok (.istore_n 2, 1) := by decide +kernel
theorem dX7_linesAt_2 : decode cX7_linesAt 2 = .ok (.iconst 0, 1) := by decide +kernel
theorem dX7_linesAt_3 : decode cX7_linesAt 3 = .ok (.istore_n 3, 1) := by decide +kernel
theorem dX7_linesAt_4 : decode cX7_linesAt 4 = .ok (.iload_n 3, 1) := by decide +kernel
theorem dX7_linesAt_5 : decode cX7_linesAt 5 = .ok (.bipush 28, 2) := by decide +kernel
theorem dX7_linesAt_7 : decode cX7_linesAt 7 = .ok (.if_icmp .ge 33, 3) := by decide +kernel
theorem dX7_linesAt_10 : decode cX7_linesAt 10 = .ok (.iload_n 2, 1) := by decide +kernel
theorem dX7_linesAt_11 : decode cX7_linesAt 11 = .ok (.iload_n 3, 1) := by decide +kernel
theorem dX7_linesAt_12 : decode cX7_linesAt 12 = .ok (.iload_n 1, 1) := by decide +kernel
theorem dX7_linesAt_13 : decode cX7_linesAt 13 = .ok (.invokestatic 136, 3) := by decide +kernel
theorem dX7_linesAt_16 : decode cX7_linesAt 16 = .ok (.ifCond .eq 15, 3) := by decide +kernel
theorem dX7_linesAt_19 : decode cX7_linesAt 19 = .ok (.aload_n 0, 1) := by decide +kernel
theorem dX7_linesAt_20 : decode cX7_linesAt 20 = .ok (.iload_n 3, 1) := by decide +kernel
theorem dX7_linesAt_21 : decode cX7_linesAt 21 = .ok (.invokevirtual 56, 3) := by decide +kernel
theorem dX7_linesAt_24 : decode cX7_linesAt 24 = .ok (.ifCond .eq 7, 3) := by decide +kernel
theorem dX7_linesAt_27 : decode cX7_linesAt 27 = .ok (.iconst 1, 1) := by decide +kernel
theorem dX7_linesAt_28 : decode cX7_linesAt 28 = .ok (.goto 4, 3) := by decide +kernel
theorem dX7_linesAt_31 : decode cX7_linesAt 31 = .ok (.iconst 0, 1) := by decide +kernel
theorem dX7_linesAt_32 : decode cX7_linesAt 32 = .ok (.iadd, 1) := by decide +kernel
theorem dX7_linesAt_33 : decode cX7_linesAt 33 = .ok (.istore_n 2, 1) := by decide +kernel
theorem dX7_linesAt_34 : decode cX7_linesAt 34 = .ok (.iinc 3 1, 3) := by decide +kernel
theorem dX7_linesAt_37 : decode cX7_linesAt 37 = .ok (.goto (-33), 3) := by decide +kernel
theorem dX7_linesAt_40 : decode cX7_linesAt 40 = .ok (.iload_n 2, 1) := by decide +kernel
theorem dX7_linesAt_41 : decode cX7_linesAt 41 = .ok (.ireturn, 1) := by decide +kernel
theorem dX7_comeTo_0 : decode cX7_comeTo 0 = .ok (.iconst 1, 1) := by decide +kernel
theorem dX7_comeTo_1 : decode cX7_comeTo 1 = .ok (.iload_n 1, 1) := by decide +kernel
theorem dX7_comeTo_2 : decode cX7_comeTo 2 = .ok (.ishl, 1) := by decide +kernel
theorem dX7_comeTo_3 : decode cX7_comeTo 3 = .ok (.istore_n 3, 1) := by decide +kernel
theorem dX7_comeTo_4 : decode cX7_comeTo 4 = .ok (.iconst 1, 1) := by decide +kernel
theorem dX7_comeTo_5 : decode cX7_comeTo 5 = .ok (.istore 4, 2) := by decide +kernel
theorem dX7_comeTo_7 : decode cX7_comeTo 7 = .ok (.iload 4, 2) := by decide +kernel
theorem dX7_comeTo_9 : decode cX7_comeTo 9 = .ok (.ifCond .eq 93, 3) := by decide +kernel
theorem dX7_comeTo_12 : decode cX7_comeTo 12 = .ok (.iload_n 3, 1) := by decide +kernel
theorem dX7_comeTo_13 : decode cX7_comeTo 13 = .ok (.istore 5, 2) := by decide +kernel
theorem dX7_comeTo_15 : decode cX7_comeTo 15 = .ok (.iconst 0, 1) := by decide +kernel
theorem dX7_comeTo_16 : decode cX7_comeTo 16 = .ok (.istore 6, 2) := by decide +kernel
theorem dX7_comeTo_18 : decode cX7_comeTo 18 = .ok (.iload 6, 2) := by decide +kernel
theorem dX7_comeTo_20 : decode cX7_comeTo 20 = .ok (.bipush 28, 2) := by decide +kernel
theorem dX7_comeTo_22 : decode cX7_comeTo 22 = .ok (.if_icmp .ge 64, 3) := by decide +kernel
theorem dX7_comeTo_25 : decode cX7_comeTo 25 = .ok (.iload 6, 2) := by decide +kernel
theorem dX7_comeTo_27 : decode cX7_comeTo 27 = .ok (.invokestatic 29, 3) := by decide +kernel
theorem dX7_comeTo_30 : decode cX7_comeTo 30 = .ok (.ifCond .eq 29, 3) := by decide +kernel
theorem dX7_comeTo_33 : decode cX7_comeTo 33 = .ok (.aload_n 0, 1) := by decide +kernel
theorem dX7_comeTo_34 : decode cX7_comeTo 34 = .ok (.iload 6, 2) := by decide +kernel
theorem dX7_comeTo_36 : decode cX7_comeTo 36 = .ok (.iconst 0, 1) := by decide +kernel
theorem dX7_comeTo_37 : decode cX7_comeTo 37 = .ok (.invokevirtual 52, 3) := by decide +kernel
theorem dX7_comeTo_40 : decode cX7_comeTo 40 = .ok (.iload_n 2, 1) := by decide +kernel
theorem dX7_comeTo_41 : decode cX7_comeTo 41 = .ok (.if_icmp .lt 18, 3) := by decide +kernel
theorem dX7_comeTo_44 : decode cX7_comeTo 44 = .ok (.iload_n 3, 1) := by decide +kernel
theorem dX7_comeTo_45 : decode cX7_comeTo 45 = .ok (.aload_n 0, 1) := by decide +kernel
theorem dX7_comeTo_46 : decode cX7_comeTo 46 = .ok (.iload 6, 2) := by decide +kernel
theorem dX7_comeTo_48 : decode cX7_comeTo 48 = .ok (.invokevirtual 75, 3) := by decide +kernel
theorem dX7_comeTo_51 : decode cX7_comeTo 51 = .ok (.iand, 1) := by decide +kernel
theorem dX7_comeTo_52 : decode cX7_comeTo 52 = .ok (.ifCond .eq 7, 3) := by decide +kernel
theorem dX7_comeTo_55 : decode cX7_comeTo 55 = .ok (.iconst 1, 1) := by decide +kernel
theorem dX7_comeTo_56 : decode cX7_comeTo 56 = .ok (.goto 4, 3) := by decide +kernel
theorem dX7_comeTo_59 : decode cX7_comeTo 59 = .ok (.iconst 0, 1) := by decide +kernel
theorem dX7_comeTo_60 : decode cX7_comeTo 60 = .ok (.istore 7, 2) := by decide +kernel
theorem dX7_comeTo_62 : decode cX7_comeTo 62 = .ok (.iload_n 3, 1) := by decide +kernel
theorem dX7_comeTo_63 : decode cX7_comeTo 63 = .ok (.iload 7, 2) := by decide +kernel
theorem dX7_comeTo_65 : decode cX7_comeTo 65 = .ok (.ifCond .eq 12, 3) := by decide +kernel
theorem dX7_comeTo_68 : decode cX7_comeTo 68 = .ok (.aload_n 0, 1) := by decide +kernel
theorem dX7_comeTo_69 : decode cX7_comeTo 69 = .ok (.iload 6, 2) := by decide +kernel
theorem dX7_comeTo_71 : decode cX7_comeTo 71 = .ok (.invokevirtual 75, 3) := by decide +kernel
theorem dX7_comeTo_74 : decode cX7_comeTo 74 = .ok (.goto 4, 3) := by decide +kernel
theorem dX7_comeTo_77 : decode cX7_comeTo 77 = .ok (.iconst 0, 1) := by decide +kernel
theorem dX7_comeTo_78 : decode cX7_comeTo 78 = .ok (.ior, 1) := by decide +kernel
theorem dX7_comeTo_79 : decode cX7_comeTo 79 = .ok (.istore_n 3, 1) := by decide +kernel
theorem dX7_comeTo_80 : decode cX7_comeTo 80 = .ok (.iinc 6 1, 3) := by decide +kernel
theorem dX7_comeTo_83 : decode cX7_comeTo 83 = .ok (.goto (-65), 3) := by decide +kernel
theorem dX7_comeTo_86 : decode cX7_comeTo 86 = .ok (.iload_n 3, 1) := by decide +kernel
theorem dX7_comeTo_87 : decode cX7_comeTo 87 = .ok (.iload 5, 2) := by decide +kernel
theorem dX7_comeTo_89 : decode cX7_comeTo 89 = .ok (.if_icmp .eq 7, 3) := by decide +kernel
theorem dX7_comeTo_92 : decode cX7_comeTo 92 = .ok (.iconst 1, 1) := by decide +kernel
theorem dX7_comeTo_93 : decode cX7_comeTo 93 = .ok (.goto 4, 3) := by decide +kernel
theorem dX7_comeTo_96 : decode cX7_comeTo 96 = .ok (.iconst 0, 1) := by decide +kernel
theorem dX7_comeTo_97 : decode cX7_comeTo 97 = .ok (.istore 4, 2) := by decide +kernel
theorem dX7_comeTo_99 : decode cX7_comeTo 99 = .ok (.goto (-92), 3) := by decide +kernel
theorem dX7_comeTo_102 : decode cX7_comeTo 102 = .ok (.iload_n 3, 1) := by decide +kernel
theorem dX7_comeTo_103 : decode cX7_comeTo 103 = .ok (.ireturn, 1) := by decide +kernel
theorem dX7_roof_0 : decode cX7_roof 0 = .ok (.iload_n 1, 1) := by decide +kernel
theorem dX7_roof_1 : decode cX7_roof 1 = .ok (.invokestatic 121, 3) := by decide +kernel
theorem dX7_roof_4 : decode cX7_roof 4 = .ok (.ifCond .ne 5, 3) := by decide +kernel
theorem dX7_roof_7 : decode cX7_roof 7 = .ok (.iconst (-1), 1) := by decide +kernel
theorem dX7_roof_8 : decode cX7_roof 8 = .ok (.ireturn, 1) := by decide +kernel
theorem dX7_roof_9 : decode cX7_roof 9 = .ok (.iload_n 2, 1) := by decide +kernel
theorem dX7_roof_10 : decode cX7_roof 10 = .ok (.tableswitch 113 0 7 #[46, 58, 67, 73, 85, 91, 97, 103], 46) := by decide +kernel
theorem dX7_roof_56 : decode cX7_roof 56 = .ok (.aload_n 0, 1) := by decide +kernel
theorem dX7_roof_57 : decode cX7_roof 57 = .ok (.getfield 7, 3) := by decide +kernel
theorem dX7_roof_60 : decode cX7_roof 60 = .ok (.bipush 8, 2) := by decide +kernel
theorem dX7_roof_62 : decode cX7_roof 62 = .ok (.iaload, 1) := by decide +kernel
theorem dX7_roof_63 : decode cX7_roof 63 = .ok (.iload_n 1, 1) := by decide +kernel
theorem dX7_roof_64 : decode cX7_roof 64 = .ok (.ishr, 1) := by decide +kernel
theorem dX7_roof_65 : decode cX7_roof 65 = .ok (.iconst 1, 1) := by decide +kernel
theorem dX7_roof_66 : decode cX7_roof 66 = .ok (.iand, 1) := by decide +kernel
theorem dX7_roof_67 : decode cX7_roof 67 = .ok (.ireturn, 1) := by decide +kernel
theorem dX7_roof_68 : decode cX7_roof 68 = .ok (.aload_n 0, 1) := by decide +kernel
theorem dX7_roof_69 : decode cX7_roof 69 = .ok (.invokevirtual 78, 3) := by decide +kernel
theorem dX7_roof_72 : decode cX7_roof 72 = .ok (.iload_n 1, 1) := by decide +kernel
theorem dX7_roof_73 : decode cX7_roof 73 = .ok (.ishr, 1) := by decide +kernel
theorem dX7_roof_74 : decode cX7_roof 74 = .ok (.iconst 1, 1) := by decide +kernel
theorem dX7_roof_75 : decode cX7_roof 75 = .ok (.iand, 1) := by decide +kernel
theorem dX7_roof_76 : decode cX7_roof 76 = .ok (.ireturn, 1) := by decide +kernel
theorem dX7_roof_77 : decode cX7_roof 77 = .ok (.aload_n 0, 1) := by decide +kernel
theorem dX7_roof_78 : decode cX7_roof 78 = .ok (.iload_n 1, 1) := by decide +kernel
theorem dX7_roof_79 : decode cX7_roof 79 = .ok (.invokevirtual 192, 3) := by decide +kernel
theorem dX7_roof_82 : decode cX7_roof 82 = .ok (.ireturn, 1) := by decide +kernel
theorem dX7_roof_83 : decode cX7_roof 83 = .ok (.aload_n 0, 1) := by decide +kernel
theorem dX7_roof_84 : decode cX7_roof 84 = .ok (.getfield 7, 3) := by decide +kernel
theorem dX7_roof_87 : decode cX7_roof 87 = .ok (.bipush 9, 2) := by decide +kernel
theorem dX7_roof_89 : decode cX7_roof 89 = .ok (.iaload, 1) := by decide +kernel
theorem dX7_roof_90 : decode cX7_roof 90 = .ok (.iload_n 1, 1) := by decide +kernel
theorem dX7_roof_91 : decode cX7_roof 91 = .ok (.ishr, 1) := by decide +kernel
theorem dX7_roof_92 : decode cX7_roof 92 = .ok (.iconst 1, 1) := by decide +kernel
theorem dX7_roof_93 : decode cX7_roof 93 = .ok (.iand, 1) := by decide +kernel
theorem dX7_roof_94 : decode cX7_roof 94 = .ok (.ireturn, 1) := by decide +kernel
theorem dX7_roof_95 : decode cX7_roof 95 = .ok (.aload_n 0, 1) := by decide +kernel
theorem dX7_roof_96 : decode cX7_roof 96 = .ok (.iload_n 1, 1) := by decide +kernel
theorem dX7_roof_97 : decode cX7_roof 97 = .ok (.invokevirtual 195, 3) := by decide +kernel
theorem dX7_roof_100 : decode cX7_roof 100 = .ok (.ireturn, 1) := by decide +kernel
theorem dX7_roof_101 : decode cX7_roof 101 = .ok (.aload_n 0, 1) := by decide +kernel
theorem dX7_roof_102 : decode cX7_roof 102 = .ok (.iload_n 1, 1) := by decide +kernel
theorem dX7_roof_103 : decode cX7_roof 103 = .ok (.invokevirtual 198, 3) := by decide +kernel
theorem dX7_roof_106 : decode cX7_roof 106 = .ok (.ireturn, 1) := by decide +kernel
theorem dX7_roof_107 : decode cX7_roof 107 = .ok (.aload_n 0, 1) := by decide +kernel
theorem dX7_roof_108 : decode cX7_roof 108 = .ok (.iload_n 1, 1) := by decide +kernel
theorem dX7_roof_109 : decode cX7_roof 109 = .ok (.invokevirtual 201, 3) := by decide +kernel
theorem dX7_roof_112 : decode cX7_roof 112 = .ok (.ireturn, 1) := by decide +kernel
theorem dX7_roof_113 : decode cX7_roof 113 = .ok (.aload_n 0, 1) := by decide +kernel
theorem dX7_roof_114 : decode cX7_roof 114 = .ok (.iload_n 1, 1) := by decide +kernel
theorem dX7_roof_115 : decode cX7_roof 115 = .ok (.iconst 1, 1) := by decide +kernel
theorem dX7_roof_116 : decode cX7_roof 116 = .ok (.invokevirtual 204, 3) := by decide +kernel
theorem dX7_roof_119 : decode cX7_roof 119 = .ok (.invokestatic 112, 3) := by decide +kernel
theorem dX7_roof_122 : decode cX7_roof 122 = .ok (.ireturn, 1) := by decide +kernel
theorem dX7_roof_123 : decode cX7_roof 123 = .ok (.iconst (-1), 1) := by decide +kernel
theorem dX7_roof_124 : decode cX7_roof 124 = .ok (.ireturn, 1) := by decide +kernel
theorem dX7_gangway_0 : decode cX7_gangway 0 = .ok (.iload_n 1, 1) := by decide +kernel
theorem dX7_gangway_1 : decode cX7_gangway 1 = .ok (.invokestatic 29, 3) := by decide +kernel
theorem dX7_gangway_4 : decode cX7_gangway 4 = .ok (.ifCond .ne 5, 3) := by decide +kernel
theorem dX7_gangway_7 : decode cX7_gangway 7 = .ok (.iconst (-1), 1) := by decide +kernel
theorem dX7_gangway_8 : decode cX7_gangway 8 = .ok (.ireturn, 1) := by decide +kernel
theorem dX7_gangway_9 : decode cX7_gangway 9 = .ok (.iload_n 2, 1) := by decide +kernel
theorem dX7_gangway_10 : decode cX7_gangway 10 = .ok (.tableswitch 117 0 6 #[42, 49, 54, 59, 81, 81, 103], 42) := by decide +kernel
theorem dX7_gangway_52 : decode cX7_gangway 52 = .ok (.aload_n 0, 1) := by decide +kernel
theorem dX7_gangway_53 : decode cX7_gangway 53 = .ok (.iload_n 1, 1) := by decide +kernel
theorem dX7_gangway_54 : decode cX7_gangway 54 = .ok (.iconst 0, 1) := by decide +kernel
theorem dX7_gangway_55 : decode cX7_gangway 55 = .ok (.invokevirtual 52, 3) := by decide +kernel
theorem dX7_gangway_58 : decode cX7_gangway 58 = .ok (.ireturn, 1) := by decide +kernel
theorem dX7_gangway_59 : decode cX7_gangway 59 = .ok (.iload_n 1, 1) := by decide +kernel
theorem dX7_gangway_60 : decode cX7_gangway 60 = .ok (.invokestatic 45, 3) := by decide +kernel
theorem dX7_gangway_63 : decode cX7_gangway 63 = .ok (.ireturn, 1) := by decide +kernel
theorem dX7_gangway_64 : decode cX7_gangway 64 = .ok (.iload_n 1, 1) := by decide +kernel
theorem dX7_gangway_65 : decode cX7_gangway 65 = .ok (.invokestatic 49, 3) := by decide +kernel
theorem dX7_gangway_68 : decode cX7_gangway 68 = .ok (.ireturn, 1) := by decide +kernel
theorem dX7_gangway_69 : decode cX7_gangway 69 = .ok (.aload_n 0, 1) := by decide +kernel
theorem dX7_gangway_70 : decode cX7_gangway 70 = .ok (.iload_n 1, 1) := by decide +kernel
theorem dX7_gangway_71 : decode cX7_gangway 71 = .ok (.invokevirtual 56, 3) := by decide +kernel
theorem dX7_gangway_74 : decode cX7_gangway 74 = .ok (.ifCond .eq 14, 3) := by decide +kernel
theorem dX7_gangway_77 : decode cX7_gangway 77 = .ok (.aload_n 0, 1) := by decide +kernel
theorem dX7_gangway_78 : decode cX7_gangway 78 = .ok (.iload_n 1, 1) := by decide +kernel
theorem dX7_gangway_79 : decode cX7_gangway 79 = .ok (.iconst 1, 1) := by decide +kernel
theorem dX7_gangway_80 : decode cX7_gangway 80 = .ok (.invokevirtual 52, 3) := by decide +kernel
theorem dX7_gangway_83 : decode cX7_gangway 83 = .ok (.iconst 1, 1) := by decide +kernel
theorem dX7_gangway_84 : decode cX7_gangway 84 = .ok (.isub, 1) := by decide +kernel
theorem dX7_gangway_85 : decode cX7_gangway 85 = .ok (.goto 5, 3) := by decide +kernel
theorem dX7_gangway_88 : decode cX7_gangway 88 = .ok (.bipush (-4), 2) := by decide +kernel
theorem dX7_gangway_90 : decode cX7_gangway 90 = .ok (.ireturn, 1) := by decide +kernel
theorem dX7_gangway_91 : decode cX7_gangway 91 = .ok (.aload_n 0, 1) := by decide +kernel
theorem dX7_gangway_92 : decode cX7_gangway 92 = .ok (.iload_n 1, 1) := by decide +kernel
theorem dX7_gangway_93 : decode cX7_gangway 93 = .ok (.invokevirtual 56, 3) := by decide +kernel
theorem dX7_gangway_96 : decode cX7_gangway 96 = .ok (.ifCond .eq 14, 3) := by decide +kernel
theorem dX7_gangway_99 : decode cX7_gangway 99 = .ok (.aload_n 0, 1) := by decide +kernel
theorem dX7_gangway_100 : decode cX7_gangway 100 = .ok (.iload_n 1, 1) := by decide +kernel
theorem dX7_gangway_101 : decode cX7_gangway 101 = .ok (.iload_n 2, 1) := by decide +kernel
theorem dX7_gangway_102 : decode cX7_gangway 102 = .ok (.iconst 2, 1) := by decide +kernel
theorem dX7_gangway_103 : decode cX7_gangway 103 = .ok (.isub, 1) := by decide +kernel
theorem dX7_gangway_104 : decode cX7_gangway 104 = .ok (.invokevirtual 52, 3) := by decide +kernel
theorem dX7_gangway_107 : decode cX7_gangway 107 = .ok (.goto 5, 3) := by decide +kernel
theorem dX7_gangway_110 : decode cX7_gangway 110 = .ok (.bipush (-4), 2) := by decide +kernel
theorem dX7_gangway_112 : decode cX7_gangway 112 = .ok (.ireturn, 1) := by decide +kernel
theorem dX7_gangway_113 : decode cX7_gangway 113 = .ok (.aload_n 0, 1) := by decide +kernel
theorem dX7_gangway_114 : decode cX7_gangway 114 = .ok (.invokevirtual 78, 3) := by decide +kernel
theorem dX7_gangway_117 : decode cX7_gangway 117 = .ok (.aload_n 0, 1) := by decide +kernel
theorem dX7_gangway_118 : decode cX7_gangway 118 = .ok (.iload_n 1, 1) := by decide +kernel
theorem dX7_gangway_119 : decode cX7_gangway 119 = .ok (.invokevirtual 75, 3) := by decide +kernel
theorem dX7_gangway_122 : decode cX7_gangway 122 = .ok (.iand, 1) := by decide +kernel
theorem dX7_gangway_123 : decode cX7_gangway 123 = .ok (.invokestatic 112, 3) := by decide +kernel
theorem dX7_gangway_126 : decode cX7_gangway 126 = .ok (.ireturn, 1) := by decide +kernel
theorem dX7_gangway_127 : decode cX7_gangway 127 = .ok (.iconst (-1), 1) := by decide +kernel
theorem dX7_gangway_128 : decode cX7_gangway 128 = .ok (.ireturn, 1) := by decide +kernel
theorem dX7_linesOf_0 : decode cX7_linesOf 0 = .ok (.iconst 0, 1) := by decide +kernel
theorem dX7_linesOf_1 : decode cX7_linesOf 1 = .ok (.istore_n 3, 1) := by decide +kernel
theorem dX7_linesOf_2 : decode cX7_linesOf 2 = .ok (.iconst 0, 1) := by decide +kernel
theorem dX7_linesOf_3 : decode cX7_linesOf 3 = .ok (.istore 4, 2) := by decide +kernel
theorem dX7_linesOf_5 : decode cX7_linesOf 5 = .ok (.iload 4, 2) := by decide +kernel
theorem dX7_linesOf_7 : decode cX7_linesOf 7 = .ok (.bipush 28, 2) := by decide +kernel
theorem dX7_linesOf_9 : decode cX7_linesOf 9 = .ok (.if_icmp .ge 43, 3) := by decide +kernel
theorem dX7_linesOf_12 : decode cX7_linesOf 12 = .ok (.iload_n 3, 1) := by decide +kernel
theorem dX7_linesOf_13 : decode cX7_linesOf 13 = .ok (.aload_n 0, 1) := by decide +kernel
theorem dX7_linesOf_14 : decode cX7_linesOf 14 = .ok (.iload 4, 2) := by decide +kernel
theorem dX7_linesOf_16 : decode cX7_linesOf 16 = .ok (.iconst 1, 1) := by decide +kernel
theorem dX7_linesOf_17 : decode cX7_linesOf 17 = .ok (.invokevirtual 52, 3) := by decide +kernel
theorem dX7_linesOf_20 : decode cX7_linesOf 20 = .ok (.iload_n 1, 1) := by decide +kernel
theorem dX7_linesOf_21 : decode cX7_linesOf 21 = .ok (.iconst 1, 1) := by decide +kernel
theorem dX7_linesOf_22 : decode cX7_linesOf 22 = .ok (.iadd, 1) := by decide +kernel
theorem dX7_linesOf_23 : decode cX7_linesOf 23 = .ok (.if_icmp .ne 20, 3) := by decide +kernel
theorem dX7_linesOf_26 : decode cX7_linesOf 26 = .ok (.iload_n 2, 1) := by decide +kernel
theorem dX7_linesOf_27 : decode cX7_linesOf 27 = .ok (.ifCond .eq 12, 3) := by decide +kernel
theorem dX7_linesOf_30 : decode cX7_linesOf 30 = .ok (.aload_n 0, 1) := by decide +kernel
theorem dX7_linesOf_31 : decode cX7_linesOf 31 = .ok (.iload 4, 2) := by decide +kernel
theorem dX7_linesOf_33 : decode cX7_linesOf 33 = .ok (.invokevirtual 88, 3) := by decide +kernel
theorem dX7_linesOf_36 : decode cX7_linesOf 36 = .ok (.ifCond .eq 7, 3) := by decide +kernel
theorem dX7_linesOf_39 : decode cX7_linesOf 39 = .ok (.iconst 1, 1) := by decide +kernel
theorem dX7_linesOf_40 : decode cX7_linesOf 40 = .ok (.goto 4, 3) := by decide +kernel
theorem dX7_linesOf_43 : decode cX7_linesOf 43 = .ok (.iconst 0, 1) := by decide +kernel
theorem dX7_linesOf_44 : decode cX7_linesOf 44 = .ok (.iadd, 1) := by decide +kernel
theorem dX7_linesOf_45 : decode cX7_linesOf 45 = .ok (.istore_n 3, 1) := by decide +kernel
theorem dX7_linesOf_46 : decode cX7_linesOf 46 = .ok (.iinc 4 1, 3) := by decide +kernel
theorem dX7_linesOf_49 : decode cX7_linesOf 49 = .ok (.goto (-44), 3) := by decide +kernel
theorem dX7_linesOf_52 : decode cX7_linesOf 52 = .ok (.iload_n 3, 1) := by decide +kernel
theorem dX7_linesOf_53 : decode cX7_linesOf 53 = .ok (.ireturn, 1) := by decide +kernel
theorem dX7_walksNow_0 : decode cX7_walksNow 0 = .ok (.iconst 0, 1) := by decide +kernel
theorem dX7_walksNow_1 : decode cX7_walksNow 1 = .ok (.istore_n 2, 1) := by decide +kernel
theorem dX7_walksNow_2 : decode cX7_walksNow 2 = .ok (.aload_n 0, 1) := by decide +kernel
theorem dX7_walksNow_3 : decode cX7_walksNow 3 = .ok (.iload_n 1, 1) := by decide +kernel
theorem dX7_walksNow_4 : decode cX7_walksNow 4 = .ok (.iconst 3, 1) := by decide +kernel
theorem dX7_walksNow_5 : decode cX7_walksNow 5 = .ok (.invokevirtual 72, 3) := by decide +kernel
theorem dX7_walksNow_8 : decode cX7_walksNow 8 = .ok (.istore_n 3, 1) := by decide +kernel
theorem dX7_walksNow_9 : decode cX7_walksNow 9 = .ok (.iconst 0, 1) := by decide +kernel
theorem dX7_walksNow_10 : decode cX7_walksNow 10 = .ok (.istore 4, 2) := by decide +kernel
theorem dX7_walksNow_12 : decode cX7_walksNow 12 = .ok (.iload 4, 2) := by decide +kernel
theorem dX7_walksNow_14 : decode cX7_walksNow 14 = .ok (.bipush 28, 2) := by decide +kernel
theorem dX7_walksNow_16 : decode cX7_walksNow 16 = .ok (.if_icmp .ge 37, 3) := by decide +kernel
theorem dX7_walksNow_19 : decode cX7_walksNow 19 = .ok (.iload_n 2, 1) := by decide +kernel
theorem dX7_walksNow_20 : decode cX7_walksNow 20 = .ok (.iload 4, 2) := by decide +kernel
theorem dX7_walksNow_22 : decode cX7_walksNow 22 = .ok (.iload_n 3, 1) := by decide +kernel
theorem dX7_walksNow_23 : decode cX7_walksNow 23 = .ok (.invokestatic 136, 3) := by decide +kernel
theorem dX7_walksNow_26 : decode cX7_walksNow 26 = .ok (.ifCond .eq 18, 3) := by decide +kernel
theorem dX7_walksNow_29 : decode cX7_walksNow 29 = .ok (.aload_n 0, 1) := by decide +kernel
theorem dX7_walksNow_30 : decode cX7_walksNow 30 = .ok (.iload_n 1, 1) := by decide +kernel
theorem dX7_walksNow_31 : decode cX7_walksNow 31 = .ok (.iload 4, 2) := by decide +kernel
theorem dX7_walksNow_33 : decode cX7_walksNow 33 = .ok (.iload_n 3, 1) := by decide +kernel
theorem dX7_walksNow_34 : decode cX7_walksNow 34 = .ok (.invokevirtual 108, 3) := by decide +kernel
theorem dX7_walksNow_37 : decode cX7_walksNow 37 = .ok (.ifCond .ne 7, 3) := by decide +kernel
theorem dX7_walksNow_40 : decode cX7_walksNow 40 = .ok (.iconst 1, 1) := by decide +kernel
theorem dX7_walksNow_41 : decode cX7_walksNow 41 = .ok (.goto 4, 3) := by decide +kernel
theorem dX7_walksNow_44 : decode cX7_walksNow 44 = .ok (.iconst 0, 1) := by decide +kernel
theorem dX7_walksNow_45 : decode cX7_walksNow 45 = .ok (.iadd, 1) := by decide +kernel
theorem dX7_walksNow_46 : decode cX7_walksNow 46 = .ok (.istore_n 2, 1) := by decide +kernel
theorem dX7_walksNow_47 : decode cX7_walksNow 47 = .ok (.iinc 4 1, 3) := by decide +kernel
theorem dX7_walksNow_50 : decode cX7_walksNow 50 = .ok (.goto (-38), 3) := by decide +kernel
theorem dX7_walksNow_53 : decode cX7_walksNow 53 = .ok (.iload_n 2, 1) := by decide +kernel
theorem dX7_walksNow_54 : decode cX7_walksNow 54 = .ok (.ireturn, 1) := by decide +kernel
theorem dX7_hangsNow_0 : decode cX7_hangsNow 0 = .ok (.iconst 0, 1) := by decide +kernel
theorem dX7_hangsNow_1 : decode cX7_hangsNow 1 = .ok (.istore_n 2, 1) := by decide +kernel
theorem dX7_hangsNow_2 : decode cX7_hangsNow 2 = .ok (.iconst 0, 1) := by decide +kernel
theorem dX7_hangsNow_3 : decode cX7_hangsNow 3 = .ok (.istore_n 3, 1) := by decide +kernel
theorem dX7_hangsNow_4 : decode cX7_hangsNow 4 = .ok (.iload_n 3, 1) := by decide +kernel
theorem dX7_hangsNow_5 : decode cX7_hangsNow 5 = .ok (.bipush 28, 2) := by decide +kernel
theorem dX7_hangsNow_7 : decode cX7_hangsNow 7 = .ok (.if_icmp .ge 33, 3) := by decide +kernel
theorem dX7_hangsNow_10 : decode cX7_hangsNow 10 = .ok (.iload_n 2, 1) := by decide +kernel
theorem dX7_hangsNow_11 : decode cX7_hangsNow 11 = .ok (.iload_n 3, 1) := by decide +kernel
theorem dX7_hangsNow_12 : decode cX7_hangsNow 12 = .ok (.invokestatic 29, 3) := by decide +kernel
theorem dX7_hangsNow_15 : decode cX7_hangsNow 15 = .ok (.ifCond .eq 16, 3) := by decide +kernel
theorem dX7_hangsNow_18 : decode cX7_hangsNow 18 = .ok (.aload_n 0, 1) := by decide +kernel
theorem dX7_hangsNow_19 : decode cX7_hangsNow 19 = .ok (.iload_n 1, 1) := by decide +kernel
theorem dX7_hangsNow_20 : decode cX7_hangsNow 20 = .ok (.iload_n 3, 1) := by decide +kernel
theorem dX7_hangsNow_21 : decode cX7_hangsNow 21 = .ok (.invokevirtual 95, 3) := by decide +kernel
theorem dX7_hangsNow_24 : decode cX7_hangsNow 24 = .ok (.ifCond .ne 7, 3) := by decide +kernel
theorem dX7_hangsNow_27 : decode cX7_hangsNow 27 = .ok (.iconst 1, 1) := by decide +kernel
theorem dX7_hangsNow_28 : decode cX7_hangsNow 28 = .ok (.goto 4, 3) := by decide +kernel
theorem dX7_hangsNow_31 : decode cX7_hangsNow 31 = .ok (.iconst 0, 1) := by decide +kernel
theorem dX7_hangsNow_32 : decode cX7_hangsNow 32 = .ok (.iadd, 1) := by decide +kernel
theorem dX7_hangsNow_33 : decode cX7_hangsNow 33 = .ok (.istore_n 2, 1) := by decide +kernel
theorem dX7_hangsNow_34 : decode cX7_hangsNow 34 = .ok (.iinc 3 1, 3) := by decide +kernel
theorem dX7_hangsNow_37 : decode cX7_hangsNow 37 = .ok (.goto (-33), 3) := by decide +kernel
theorem dX7_hangsNow_40 : decode cX7_hangsNow 40 = .ok (.iload_n 2, 1) := by decide +kernel
theorem dX7_hangsNow_41 : decode cX7_hangsNow 41 = .ok (.ireturn, 1) := by decide +kernel
theorem dX7_ownerOf_0 : decode cX7_ownerOf 0 = .ok (.iload_n 1, 1) := by decide +kernel
theorem dX7_ownerOf_1 : decode cX7_ownerOf 1 = .ok (.invokestatic 127, 3) := by decide +kernel
theorem dX7_ownerOf_4 : decode cX7_ownerOf 4 = .ok (.ifCond .ne 5, 3) := by decide +kernel
theorem dX7_ownerOf_7 : decode cX7_ownerOf 7 = .ok (.iconst (-1), 1) := by decide +kernel
theorem dX7_ownerOf_8 : decode cX7_ownerOf 8 = .ok (.ireturn, 1) := by decide +kernel
theorem dX7_ownerOf_9 : decode cX7_ownerOf 9 = .ok (.iload_n 2, 1) := by decide +kernel
theorem dX7_ownerOf_10 : decode cX7_ownerOf 10 = .ok (.tableswitch 92 0 8 #[50, 50, 50, 50, 57, 57, 73, 79, 86], 50) := by decide +kernel
theorem dX7_ownerOf_60 : decode cX7_ownerOf 60 = .ok (.aload_n 0, 1) := by decide +kernel
theorem dX7_ownerOf_61 : decode cX7_ownerOf 61 = .ok (.iload_n 1, 1) := by decide +kernel
theorem dX7_ownerOf_62 : decode cX7_ownerOf 62 = .ok (.iload_n 2, 1) := by decide +kernel
theorem dX7_ownerOf_63 : decode cX7_ownerOf 63 = .ok (.invokevirtual 72, 3) := by decide +kernel
theorem dX7_ownerOf_66 : decode cX7_ownerOf 66 = .ok (.ireturn, 1) := by decide +kernel
theorem dX7_ownerOf_67 : decode cX7_ownerOf 67 = .ok (.aload_n 0, 1) := by decide +kernel
theorem dX7_ownerOf_68 : decode cX7_ownerOf 68 = .ok (.iload_n 1, 1) := by decide +kernel
theorem dX7_ownerOf_69 : decode cX7_ownerOf 69 = .ok (.iload_n 2, 1) := by decide +kernel
theorem dX7_ownerOf_70 : decode cX7_ownerOf 70 = .ok (.iconst 5, 1) := by decide +kernel
theorem dX7_ownerOf_71 : decode cX7_ownerOf 71 = .ok (.if_icmp .ne 7, 3) := by decide +kernel
theorem dX7_ownerOf_74 : decode cX7_ownerOf 74 = .ok (.iconst 1, 1) := by decide +kernel
theorem dX7_ownerOf_75 : decode cX7_ownerOf 75 = .ok (.goto 4, 3) := by decide +kernel
theorem dX7_ownerOf_78 : decode cX7_ownerOf 78 = .ok (.iconst 0, 1) := by decide +kernel
theorem dX7_ownerOf_79 : decode cX7_ownerOf 79 = .ok (.invokevirtual 207, 3) := by decide +kernel
theorem dX7_ownerOf_82 : decode cX7_ownerOf 82 = .ok (.ireturn, 1) := by decide +kernel
theorem dX7_ownerOf_83 : decode cX7_ownerOf 83 = .ok (.aload_n 0, 1) := by decide +kernel
theorem dX7_ownerOf_84 : decode cX7_ownerOf 84 = .ok (.iload_n 1, 1) := by decide +kernel
theorem dX7_ownerOf_85 : decode cX7_ownerOf 85 = .ok (.invokevirtual 211, 3) := by decide +kernel
theorem dX7_ownerOf_88 : decode cX7_ownerOf 88 = .ok (.ireturn, 1) := by decide +kernel
theorem dX7_ownerOf_89 : decode cX7_ownerOf 89 = .ok (.aload_n 0, 1) := by decide +kernel
theorem dX7_ownerOf_90 : decode cX7_ownerOf 90 = .ok (.iload_n 1, 1) := by decide +kernel
theorem dX7_ownerOf_91 : decode cX7_ownerOf 91 = .ok (.iconst 4, 1) := by decide +kernel
theorem dX7_ownerOf_92 : decode cX7_ownerOf 92 = .ok (.invokevirtual 72, 3) := by decide +kernel
theorem dX7_ownerOf_95 : decode cX7_ownerOf 95 = .ok (.ireturn, 1) := by decide +kernel
theorem dX7_ownerOf_96 : decode cX7_ownerOf 96 = .ok (.aload_n 0, 1) := by decide +kernel
theorem dX7_ownerOf_97 : decode cX7_ownerOf 97 = .ok (.iload_n 1, 1) := by decide +kernel
theorem dX7_ownerOf_98 : decode cX7_ownerOf 98 = .ok (.invokevirtual 214, 3) := by decide +kernel
theorem dX7_ownerOf_101 : decode cX7_ownerOf 101 = .ok (.ireturn, 1) := by decide +kernel
theorem dX7_ownerOf_102 : decode cX7_ownerOf 102 = .ok (.iconst (-1), 1) := by decide +kernel
theorem dX7_ownerOf_103 : decode cX7_ownerOf 103 = .ok (.ireturn, 1) := by decide +kernel
theorem dX7_whyNotHang_0 : decode cX7_whyNotHang 0 = .ok (.iload_n 1, 1) := by decide +kernel
theorem dX7_whyNotHang_1 : decode cX7_whyNotHang 1 = .ok (.invokestatic 127, 3) := by decide +kernel
theorem dX7_whyNotHang_4 : decode cX7_whyNotHang 4 = .ok (.ifCond .eq 19, 3) := by decide +kernel
theorem dX7_whyNotHang_7 : decode cX7_whyNotHang 7 = .ok (.iload_n 2, 1) := by decide +kernel
theorem dX7_whyNotHang_8 : decode cX7_whyNotHang 8 = .ok (.invokestatic 29, 3) := by decide +kernel
theorem dX7_whyNotHang_11 : decode cX7_whyNotHang 11 = .ok (.ifCond .eq 12, 3) := by decide +kernel
theorem dX7_whyNotHang_14 : decode cX7_whyNotHang 14 = .ok (.aload_n 0, 1) := by decide +kernel
theorem dX7_whyNotHang_15 : decode cX7_whyNotHang 15 = .ok (.iload_n 1, 1) := by decide +kernel
theorem dX7_whyNotHang_16 : decode cX7_whyNotHang 16 = .ok (.iload_n 2, 1) := by decide +kernel
theorem dX7_whyNotHang_17 : decode cX7_whyNotHang 17 = .ok (.invokevirtual 95, 3) := by decide +kernel
theorem dX7_whyNotHang_20 : decode cX7_whyNotHang 20 = .ok (.goto 4, 3) := by decide +kernel
theorem dX7_whyNotHang_23 : decode cX7_whyNotHang 23 = .ok (.iconst (-1), 1) := by decide +kernel
theorem dX7_whyNotHang_24 : decode cX7_whyNotHang 24 = .ok (.ireturn, 1) := by decide +kernel
theorem dX7_strengthOf_0 : decode cX7_strengthOf 0 = .ok (.bipush (-4), 2) := by decide +kernel
theorem dX7_strengthOf_2 : decode cX7_strengthOf 2 = .ok (.istore_n 3, 1) := by decide +kernel
theorem dX7_strengthOf_3 : decode cX7_strengthOf 3 = .ok (.iconst 1, 1) := by decide +kernel
theorem dX7_strengthOf_4 : decode cX7_strengthOf 4 = .ok (.istore 4, 2) := by decide +kernel
theorem dX7_strengthOf_6 : decode cX7_strengthOf 6 = .ok (.iload 4, 2) := by decide +kernel
theorem dX7_strengthOf_8 : decode cX7_strengthOf 8 = .ok (.bipush 10, 2) := by decide +kernel
theorem dX7_strengthOf_10 : decode cX7_strengthOf 10 = .ok (.if_icmp .ge 30, 3) := by decide +kernel
theorem dX7_strengthOf_13 : decode cX7_strengthOf 13 = .ok (.aload_n 0, 1) := by decide +kernel
theorem dX7_strengthOf_14 : decode cX7_strengthOf 14 = .ok (.iload_n 1, 1) := by decide +kernel
theorem dX7_strengthOf_15 : decode cX7_strengthOf 15 = .ok (.iload 4, 2) := by decide +kernel
theorem dX7_strengthOf_17 : decode cX7_strengthOf 17 = .ok (.invokevirtual 204, 3) := by decide +kernel
theorem dX7_strengthOf_20 : decode cX7_strengthOf 20 = .ok (.iload_n 2, 1) := by decide +kernel
theorem dX7_strengthOf_21 : decode cX7_strengthOf 21 = .ok (.invokestatic 62, 3) := by decide +kernel
theorem dX7_strengthOf_24 : decode cX7_strengthOf 24 = .ok (.ifCond .eq 8, 3) := by decide +kernel
theorem dX7_strengthOf_27 : decode cX7_strengthOf 27 = .ok (.iload 4, 2) := by decide +kernel
theorem dX7_strengthOf_29 : decode cX7_strengthOf 29 = .ok (.goto 4, 3) := by decide +kernel
theorem dX7_strengthOf_32 : decode cX7_strengthOf 32 = .ok (.iload_n 3, 1) := by decide +kernel
theorem dX7_strengthOf_33 : decode cX7_strengthOf 33 = .ok (.istore_n 3, 1) := by decide +kernel
theorem dX7_strengthOf_34 : decode cX7_strengthOf 34 = .ok (.iinc 4 1, 3) := by decide +kernel
theorem dX7_strengthOf_37 : decode cX7_strengthOf 37 = .ok (.goto (-31), 3) := by decide +kernel
theorem dX7_strengthOf_40 : decode cX7_strengthOf 40 = .ok (.iload_n 1, 1) := by decide +kernel
theorem dX7_strengthOf_41 : decode cX7_strengthOf 41 = .ok (.iload_n 2, 1) := by decide +kernel
theorem dX7_strengthOf_42 : decode cX7_strengthOf 42 = .ok (.if_icmp .ne 8, 3) := by decide +kernel
theorem dX7_strengthOf_45 : decode cX7_strengthOf 45 = .ok (.bipush 10, 2) := by decide +kernel
theorem dX7_strengthOf_47 : decode cX7_strengthOf 47 = .ok (.goto 4, 3) := by decide +kernel
theorem dX7_strengthOf_50 : decode cX7_strengthOf 50 = .ok (.iload_n 3, 1) := by decide +kernel
theorem dX7_strengthOf_51 : decode cX7_strengthOf 51 = .ok (.ireturn, 1) := by decide +kernel
theorem dX7_strongest_0 : decode cX7_strongest 0 = .ok (.iload_n 1, 1) := by decide +kernel
theorem dX7_strongest_1 : decode cX7_strongest 1 = .ok (.invokestatic 121, 3) := by decide +kernel
theorem dX7_strongest_4 : decode cX7_strongest 4 = .ok (.ifCond .eq 28, 3) := by decide +kernel
theorem dX7_strongest_7 : decode cX7_strongest 7 = .ok (.iload_n 2, 1) := by decide +kernel
theorem dX7_strongest_8 : decode cX7_strongest 8 = .ok (.invokestatic 121, 3) := by decide +kernel
theorem dX7_strongest_11 : decode cX7_strongest 11 = .ok (.ifCond .eq 21, 3) := by decide +kernel
theorem dX7_strongest_14 : decode cX7_strongest 14 = .ok (.iload_n 3, 1) := by decide +kernel
theorem dX7_strongest_15 : decode cX7_strongest 15 = .ok (.iconst 0, 1) := by decide +kernel
theorem dX7_strongest_16 : decode cX7_strongest 16 = .ok (.iconst 1, 1) := by decide +kernel
theorem dX7_strongest_17 : decode cX7_strongest 17 = .ok (.invokestatic 41, 3) := by decide +kernel
theorem dX7_strongest_20 : decode cX7_strongest 20 = .ok (.ifCond .eq 12, 3) := by decide +kernel
theorem dX7_strongest_23 : decode cX7_strongest 23 = .ok (.aload_n 0, 1) := by decide +kernel
theorem dX7_strongest_24 : decode cX7_strongest 24 = .ok (.iload_n 1, 1) := by decide +kernel
theorem dX7_strongest_25 : decode cX7_strongest 25 = .ok (.iload_n 2, 1) := by decide +kernel
theorem dX7_strongest_26 : decode cX7_strongest 26 = .ok (.invokevirtual 217, 3) := by decide +kernel
theorem dX7_strongest_29 : decode cX7_strongest 29 = .ok (.goto 4, 3) := by decide +kernel
theorem dX7_strongest_32 : decode cX7_strongest 32 = .ok (.iconst (-1), 1) := by decide +kernel
theorem dX7_strongest_33 : decode cX7_strongest 33 = .ok (.ireturn, 1) := by decide +kernel
theorem dX7_furtherFrom_0 : decode cX7_furtherFrom 0 = .ok (.iload_n 2, 1) := by decide +kernel
theorem dX7_furtherFrom_1 : decode cX7_furtherFrom 1 = .ok (.istore_n 3, 1) := by decide +kernel
theorem dX7_furtherFrom_2 : decode cX7_furtherFrom 2 = .ok (.iconst 0, 1) := by decide +kernel
theorem dX7_furtherFrom_3 : decode cX7_furtherFrom 3 = .ok (.istore 4, 2) := by decide +kernel
theorem dX7_furtherFrom_5 : decode cX7_furtherFrom 5 = .ok (.iload 4, 2) := by decide +kernel
theorem dX7_furtherFrom_7 : decode cX7_furtherFrom 7 = .ok (.bipush 28, 2) := by decide +kernel
theorem dX7_furtherFrom_9 : decode cX7_furtherFrom 9 = .ok (.if_icmp .ge 95, 3) := by decide +kernel
theorem dX7_furtherFrom_12 : decode cX7_furtherFrom 12 = .ok (.iload 4, 2) := by decide +kernel
theorem dX7_furtherFrom_14 : decode cX7_furtherFrom 14 = .ok (.invokestatic 45, 3) := by decide +kernel
theorem dX7_furtherFrom_17 : decode cX7_furtherFrom 17 = .ok (.istore 5, 2) := by decide +kernel
theorem dX7_furtherFrom_19 : decode cX7_furtherFrom 19 = .ok (.iload 4, 2) := by decide +kernel
theorem dX7_furtherFrom_21 : decode cX7_furtherFrom 21 = .ok (.invokestatic 49, 3) := by decide +kernel
theorem dX7_furtherFrom_24 : decode cX7_furtherFrom 24 = .ok (.istore 6, 2) := by decide +kernel
theorem dX7_furtherFrom_26 : decode cX7_furtherFrom 26 = .ok (.iload 4, 2) := by decide +kernel
theorem dX7_furtherFrom_28 : decode cX7_furtherFrom 28 = .ok (.invokestatic 29, 3) := by decide +kernel
theorem dX7_furtherFrom_31 : decode cX7_furtherFrom 31 = .ok (.ifCond .eq 67, 3) := by decide +kernel
theorem dX7_furtherFrom_34 : decode cX7_furtherFrom 34 = .ok (.iload_n 3, 1) := by decide +kernel
theorem dX7_furtherFrom_35 : decode cX7_furtherFrom 35 = .ok (.iload_n 2, 1) := by decide +kernel
theorem dX7_furtherFrom_36 : decode cX7_furtherFrom 36 = .ok (.iload 5, 2) := by decide +kernel
theorem dX7_furtherFrom_38 : decode cX7_furtherFrom 38 = .ok (.invokestatic 62, 3) := by decide +kernel
theorem dX7_furtherFrom_41 : decode cX7_furtherFrom 41 = .ok (.ifCond .eq 22, 3) := by decide +kernel
theorem dX7_furtherFrom_44 : decode cX7_furtherFrom 44 = .ok (.aload_n 0, 1) := by decide +kernel
theorem dX7_furtherFrom_45 : decode cX7_furtherFrom 45 = .ok (.iload_n 1, 1) := by decide +kernel
theorem dX7_furtherFrom_46 : decode cX7_furtherFrom 46 = .ok (.iload 4, 2) := by decide +kernel
theorem dX7_furtherFrom_48 : decode cX7_furtherFrom 48 = .ok (.iload 5, 2) := by decide +kernel
theorem dX7_furtherFrom_50 : decode cX7_furtherFrom 50 = .ok (.invokevirtual 108, 3) := by decide +kernel
theorem dX7_furtherFrom_53 : decode cX7_furtherFrom 53 = .ok (.ifCond .ne 10, 3) := by decide +kernel
theorem dX7_furtherFrom_56 : decode cX7_furtherFrom 56 = .ok (.iconst 1, 1) := by decide +kernel
theorem dX7_furtherFrom_57 : decode cX7_furtherFrom 57 = .ok (.iload 6, 2) := by decide +kernel
theorem dX7_furtherFrom_59 : decode cX7_furtherFrom 59 = .ok (.ishl, 1) := by decide +kernel
theorem dX7_furtherFrom_60 : decode cX7_furtherFrom 60 = .ok (.goto 4, 3) := by decide +kernel
theorem dX7_furtherFrom_63 : decode cX7_furtherFrom 63 = .ok (.iconst 0, 1) := by decide +kernel
theorem dX7_furtherFrom_64 : decode cX7_furtherFrom 64 = .ok (.ior, 1) := by decide +kernel
theorem dX7_furtherFrom_65 : decode cX7_furtherFrom 65 = .ok (.istore_n 3, 1) := by decide +kernel
theorem dX7_furtherFrom_66 : decode cX7_furtherFrom 66 = .ok (.iload_n 3, 1) := by decide +kernel
theorem dX7_furtherFrom_67 : decode cX7_furtherFrom 67 = .ok (.iload_n 2, 1) := by decide +kernel
theorem dX7_furtherFrom_68 : decode cX7_furtherFrom 68 = .ok (.iload 6, 2) := by decide +kernel
theorem dX7_furtherFrom_70 : decode cX7_furtherFrom 70 = .ok (.invokestatic 62, 3) := by decide +kernel
theorem dX7_furtherFrom_73 : decode cX7_furtherFrom 73 = .ok (.ifCond .eq 22, 3) := by decide +kernel
theorem dX7_furtherFrom_76 : decode cX7_furtherFrom 76 = .ok (.aload_n 0, 1) := by decide +kernel
theorem dX7_furtherFrom_77 : decode cX7_furtherFrom 77 = .ok (.iload_n 1, 1) := by decide +kernel
theorem dX7_furtherFrom_78 : decode cX7_furtherFrom 78 = .ok (.iload 4, 2) := by decide +kernel
theorem dX7_furtherFrom_80 : decode cX7_furtherFrom 80 = .ok (.iload 6, 2) := by decide +kernel
theorem dX7_furtherFrom_82 : decode cX7_furtherFrom 82 = .ok (.invokevirtual 108, 3) := by decide +kernel
theorem dX7_furtherFrom_85 : decode cX7_furtherFrom 85 = .ok (.ifCond .ne 10, 3) := by decide +kernel
theorem dX7_furtherFrom_88 : decode cX7_furtherFrom 88 = .ok (.iconst 1, 1) := by decide +kernel
theorem dX7_furtherFrom_89 : decode cX7_furtherFrom 89 = .ok (.iload 5, 2) := by decide +kernel
theorem dX7_furtherFrom_91 : decode cX7_furtherFrom 91 = .ok (.ishl, 1) := by decide +kernel
theorem dX7_furtherFrom_92 : decode cX7_furtherFrom 92 = .ok (.goto 4, 3) := by decide +kernel
theorem dX7_furtherFrom_95 : decode cX7_furtherFrom 95 = .ok (.iconst 0, 1) := by decide +kernel
theorem dX7_furtherFrom_96 : decode cX7_furtherFrom 96 = .ok (.ior, 1) := by decide +kernel
theorem dX7_furtherFrom_97 : decode cX7_furtherFrom 97 = .ok (.istore_n 3, 1) := by decide +kernel
theorem dX7_furtherFrom_98 : decode cX7_furtherFrom 98 = .ok (.iinc 4 1, 3) := by decide +kernel
theorem dX7_furtherFrom_101 : decode cX7_furtherFrom 101 = .ok (.goto (-96), 3) := by decide +kernel
theorem dX7_furtherFrom_104 : decode cX7_furtherFrom 104 = .ok (.iload_n 3, 1) := by decide +kernel
theorem dX7_furtherFrom_105 : decode cX7_furtherFrom 105 = .ok (.ireturn, 1) := by decide +kernel
theorem dX7_stepsOf_0 : decode cX7_stepsOf 0 = .ok (.iconst 1, 1) := by decide +kernel
theorem dX7_stepsOf_1 : decode cX7_stepsOf 1 = .ok (.aload_n 0, 1) := by decide +kernel
theorem dX7_stepsOf_2 : decode cX7_stepsOf 2 = .ok (.iload_n 1, 1) := by decide +kernel
theorem dX7_stepsOf_3 : decode cX7_stepsOf 3 = .ok (.iconst 3, 1) := by decide +kernel
theorem dX7_stepsOf_4 : decode cX7_stepsOf 4 = .ok (.invokevirtual 72, 3) := by decide +kernel
theorem dX7_stepsOf_7 : decode cX7_stepsOf 7 = .ok (.ishl, 1) := by decide +kernel
theorem dX7_stepsOf_8 : decode cX7_stepsOf 8 = .ok (.istore_n 3, 1) := by decide +kernel
theorem dX7_stepsOf_9 : decode cX7_stepsOf 9 = .ok (.iconst 0, 1) := by decide +kernel
theorem dX7_stepsOf_10 : decode cX7_stepsOf 10 = .ok (.istore 4, 2) := by decide +kernel
theorem dX7_stepsOf_12 : decode cX7_stepsOf 12 = .ok (.iload_n 3, 1) := by decide +kernel
theorem dX7_stepsOf_13 : decode cX7_stepsOf 13 = .ok (.iload_n 2, 1) := by decide +kernel
theorem dX7_stepsOf_14 : decode cX7_stepsOf 14 = .ok (.invokestatic 62, 3) := by decide +kernel
theorem dX7_stepsOf_17 : decode cX7_stepsOf 17 = .ok (.ifCond .ne 26, 3) := by decide +kernel
theorem dX7_stepsOf_20 : decode cX7_stepsOf 20 = .ok (.aload_n 0, 1) := by decide +kernel
theorem dX7_stepsOf_21 : decode cX7_stepsOf 21 = .ok (.iload_n 1, 1) := by decide +kernel
theorem dX7_stepsOf_22 : decode cX7_stepsOf 22 = .ok (.iload_n 3, 1) := by decide +kernel
theorem dX7_stepsOf_23 : decode cX7_stepsOf 23 = .ok (.invokevirtual 220, 3) := by decide +kernel
theorem dX7_stepsOf_26 : decode cX7_stepsOf 26 = .ok (.iload_n 3, 1) := by decide +kernel
theorem dX7_stepsOf_27 : decode cX7_stepsOf 27 = .ok (.if_icmp .eq 16, 3) := by decide +kernel
theorem dX7_stepsOf_30 : decode cX7_stepsOf 30 = .ok (.aload_n 0, 1) := by decide +kernel
theorem dX7_stepsOf_31 : decode cX7_stepsOf 31 = .ok (.iload_n 1, 1) := by decide +kernel
theorem dX7_stepsOf_32 : decode cX7_stepsOf 32 = .ok (.iload_n 3, 1) := by decide +kernel
theorem dX7_stepsOf_33 : decode cX7_stepsOf 33 = .ok (.invokevirtual 220, 3) := by decide +kernel
theorem dX7_stepsOf_36 : decode cX7_stepsOf 36 = .ok (.istore_n 3, 1) := by decide +kernel
theorem dX7_stepsOf_37 : decode cX7_stepsOf 37 = .ok (.iinc 4 1, 3) := by decide +kernel
theorem dX7_stepsOf_40 : decode cX7_stepsOf 40 = .ok (.goto (-28), 3) := by decide +kernel
theorem dX7_stepsOf_43 : decode cX7_stepsOf 43 = .ok (.iload_n 3, 1) := by decide +kernel
theorem dX7_stepsOf_44 : decode cX7_stepsOf 44 = .ok (.iload_n 2, 1) := by decide +kernel
theorem dX7_stepsOf_45 : decode cX7_stepsOf 45 = .ok (.invokestatic 62, 3) := by decide +kernel
theorem dX7_stepsOf_48 : decode cX7_stepsOf 48 = .ok (.ifCond .eq 8, 3) := by decide +kernel
theorem dX7_stepsOf_51 : decode cX7_stepsOf 51 = .ok (.iload 4, 2) := by decide +kernel
theorem dX7_stepsOf_53 : decode cX7_stepsOf 53 = .ok (.goto 5, 3) := by decide +kernel
theorem dX7_stepsOf_56 : decode cX7_stepsOf 56 = .ok (.bipush (-4), 2) := by decide +kernel
theorem dX7_stepsOf_58 : decode cX7_stepsOf 58 = .ok (.ireturn, 1) := by decide +kernel
theorem dX7_steps_0 : decode cX7_steps 0 = .ok (.iload_n 1, 1) := by decide +kernel
theorem dX7_steps_1 : decode cX7_steps 1 = .ok (.invokestatic 127, 3) := by decide +kernel
theorem dX7_steps_4 : decode cX7_steps 4 = .ok (.ifCond .eq 19, 3) := by decide +kernel
theorem dX7_steps_7 : decode cX7_steps 7 = .ok (.iload_n 2, 1) := by decide +kernel
theorem dX7_steps_8 : decode cX7_steps 8 = .ok (.invokestatic 121, 3) := by decide +kernel
theorem dX7_steps_11 : decode cX7_steps 11 = .ok (.ifCond .eq 12, 3) := by decide +kernel
theorem dX7_steps_14 : decode cX7_steps 14 = .ok (.aload_n 0, 1) := by decide +kernel
theorem dX7_steps_15 : decode cX7_steps 15 = .ok (.iload_n 1, 1) := by decide +kernel
theorem dX7_steps_16 : decode cX7_steps 16 = .ok (.iload_n 2, 1) := by decide +kernel
theorem dX7_steps_17 : decode cX7_steps 17 = .ok (.invokevirtual 223, 3) := by decide +kernel
theorem dX7_steps_20 : decode cX7_steps 20 = .ok (.goto 4, 3) := by decide +kernel
theorem dX7_steps_23 : decode cX7_steps 23 = .ok (.iconst (-1), 1) := by decide +kernel
theorem dX7_steps_24 : decode cX7_steps 24 = .ok (.ireturn, 1) := by decide +kernel
theorem dX7_sumOf_0 : decode cX7_sumOf 0 = .ok (.iconst 0, 1) := by decide +kernel
theorem dX7_sumOf_1 : decode cX7_sumOf 1 = .ok (.istore_n 2, 1) := by decide +kernel
theorem dX7_sumOf_2 : decode cX7_sumOf 2 = .ok (.iconst 0, 1) := by decide +kernel
theorem dX7_sumOf_3 : decode cX7_sumOf 3 = .ok (.istore_n 3, 1) := by decide +kernel
theorem dX7_sumOf_4 : decode cX7_sumOf 4 = .ok (.iload_n 3, 1) := by decide +kernel
theorem dX7_sumOf_5 : decode cX7_sumOf 5 = .ok (.bipush 28, 2) := by decide +kernel
theorem dX7_sumOf_7 : decode cX7_sumOf 7 = .ok (.if_icmp .ge 30, 3) := by decide +kernel
theorem dX7_sumOf_10 : decode cX7_sumOf 10 = .ok (.iload_n 2, 1) := by decide +kernel
theorem dX7_sumOf_11 : decode cX7_sumOf 11 = .ok (.aload_n 0, 1) := by decide +kernel
theorem dX7_sumOf_12 : decode cX7_sumOf 12 = .ok (.iload_n 3, 1) := by decide +kernel
theorem dX7_sumOf_13 : decode cX7_sumOf 13 = .ok (.invokevirtual 56, 3) := by decide +kernel
theorem dX7_sumOf_16 : decode cX7_sumOf 16 = .ok (.ifCond .eq 12, 3) := by decide +kernel
theorem dX7_sumOf_19 : decode cX7_sumOf 19 = .ok (.aload_n 0, 1) := by decide +kernel
theorem dX7_sumOf_20 : decode cX7_sumOf 20 = .ok (.iload_n 3, 1) := by decide +kernel
theorem dX7_sumOf_21 : decode cX7_sumOf 21 = .ok (.iload_n 1, 1) := by decide +kernel
theorem dX7_sumOf_22 : decode cX7_sumOf 22 = .ok (.invokevirtual 52, 3) := by decide +kernel
theorem dX7_sumOf_25 : decode cX7_sumOf 25 = .ok (.goto 4, 3) := by decide +kernel
theorem dX7_sumOf_28 : decode cX7_sumOf 28 = .ok (.iconst 0, 1) := by decide +kernel
theorem dX7_sumOf_29 : decode cX7_sumOf 29 = .ok (.iadd, 1) := by decide +kernel
theorem dX7_sumOf_30 : decode cX7_sumOf 30 = .ok (.istore_n 2, 1) := by decide +kernel
theorem dX7_sumOf_31 : decode cX7_sumOf 31 = .ok (.iinc 3 1, 3) := by decide +kernel
theorem dX7_sumOf_34 : decode cX7_sumOf 34 = .ok (.goto (-30), 3) := by decide +kernel
theorem dX7_sumOf_37 : decode cX7_sumOf 37 = .ok (.iload_n 2, 1) := by decide +kernel
theorem dX7_sumOf_38 : decode cX7_sumOf 38 = .ok (.ireturn, 1) := by decide +kernel
theorem dX7_smokedBy_0 : decode cX7_smokedBy 0 = .ok (.aload_n 0, 1) := by decide +kernel
theorem dX7_smokedBy_1 : decode cX7_smokedBy 1 = .ok (.iload_n 1, 1) := by decide +kernel
theorem dX7_smokedBy_2 : decode cX7_smokedBy 2 = .ok (.invokevirtual 69, 3) := by decide +kernel
theorem dX7_smokedBy_5 : decode cX7_smokedBy 5 = .ok (.istore_n 2, 1) := by decide +kernel
theorem dX7_smokedBy_6 : decode cX7_smokedBy 6 = .ok (.iconst 0, 1) := by decide +kernel
theorem dX7_smokedBy_7 : decode cX7_smokedBy 7 = .ok (.istore_n 3, 1) := by decide +kernel
theorem dX7_smokedBy_8 : decode cX7_smokedBy 8 = .ok (.iconst 0, 1) := by decide +kernel
theorem dX7_smokedBy_9 : decode cX7_smokedBy 9 = .ok (.istore 4, 2) := by decide +kernel
theorem dX7_smokedBy_11 : decode cX7_smokedBy 11 = .ok (.iload 4, 2) := by decide +kernel
theorem dX7_smokedBy_13 : decode cX7_smokedBy 13 = .ok (.bipush 28, 2) := by decide +kernel
theorem dX7_smokedBy_15 : decode cX7_smokedBy 15 = .ok (.if_icmp .ge 37, 3) := by decide +kernel
theorem dX7_smokedBy_18 : decode cX7_smokedBy 18 = .ok (.iload_n 3, 1) := by decide +kernel
theorem dX7_smokedBy_19 : decode cX7_smokedBy 19 = .ok (.aload_n 0, 1) := by decide +kernel
theorem dX7_smokedBy_20 : decode cX7_smokedBy 20 = .ok (.iload 4, 2) := by decide +kernel
theorem dX7_smokedBy_22 : decode cX7_smokedBy 22 = .ok (.invokevirtual 56, 3) := by decide +kernel
theorem dX7_smokedBy_25 : decode cX7_smokedBy 25 = .ok (.ifCond .eq 18, 3) := by decide +kernel
theorem dX7_smokedBy_28 : decode cX7_smokedBy 28 = .ok (.iload_n 2, 1) := by decide +kernel
theorem dX7_smokedBy_29 : decode cX7_smokedBy 29 = .ok (.aload_n 0, 1) := by decide +kernel
theorem dX7_smokedBy_30 : decode cX7_smokedBy 30 = .ok (.iload 4, 2) := by decide +kernel
theorem dX7_smokedBy_32 : decode cX7_smokedBy 32 = .ok (.invokevirtual 75, 3) := by decide +kernel
theorem dX7_smokedBy_35 : decode cX7_smokedBy 35 = .ok (.iand, 1) := by decide +kernel
theorem dX7_smokedBy_36 : decode cX7_smokedBy 36 = .ok (.ifCond .eq 7, 3) := by decide +kernel
theorem dX7_smokedBy_39 : decode cX7_smokedBy 39 = .ok (.iconst 1, 1) := by decide +kernel
theorem dX7_smokedBy_40 : decode cX7_smokedBy 40 = .ok (.goto 4, 3) := by decide +kernel
theorem dX7_smokedBy_43 : decode cX7_smokedBy 43 = .ok (.iconst 0, 1) := by decide +kernel
theorem dX7_smokedBy_44 : decode cX7_smokedBy 44 = .ok (.iadd, 1) := by decide +kernel
theorem dX7_smokedBy_45 : decode cX7_smokedBy 45 = .ok (.istore_n 3, 1) := by decide +kernel
theorem dX7_smokedBy_46 : decode cX7_smokedBy 46 = .ok (.iinc 4 1, 3) := by decide +kernel
theorem dX7_smokedBy_49 : decode cX7_smokedBy 49 = .ok (.goto (-38), 3) := by decide +kernel
theorem dX7_smokedBy_52 : decode cX7_smokedBy 52 = .ok (.iload_n 3, 1) := by decide +kernel
theorem dX7_smokedBy_53 : decode cX7_smokedBy 53 = .ok (.ireturn, 1) := by decide +kernel
theorem dX7_count_0 : decode cX7_count 0 = .ok (.iload_n 1, 1) := by decide +kernel
theorem dX7_count_1 : decode cX7_count 1 = .ok (.tableswitch 197 0 17 #[87, 87, 94, 105, 113, 124, 129, 134, 134, 150, 161, 161, 161, 161, 173, 180, 187, 192], 87) := by decide +kernel
theorem dX7_count_88 : decode cX7_count 88 = .ok (.aload_n 0, 1) := by decide +kernel
theorem dX7_count_89 : decode cX7_count 89 = .ok (.getfield 7, 3) := by decide +kernel
theorem dX7_count_92 : decode cX7_count 92 = .ok (.iload_n 1, 1) := by decide +kernel
theorem dX7_count_93 : decode cX7_count 93 = .ok (.iaload, 1) := by decide +kernel
theorem dX7_count_94 : decode cX7_count 94 = .ok (.ireturn, 1) := by decide +kernel
theorem dX7_count_95 : decode cX7_count 95 = .ok (.aload_n 0, 1) := by decide +kernel
theorem dX7_count_96 : decode cX7_count 96 = .ok (.getfield 7, 3) := by decide +kernel
theorem dX7_count_99 : decode cX7_count 99 = .ok (.bipush 8, 2) := by decide +kernel
theorem dX7_count_101 : decode cX7_count 101 = .ok (.iaload, 1) := by decide +kernel
theorem dX7_count_102 : decode cX7_count 102 = .ok (.invokestatic 112, 3) := by decide +kernel
theorem dX7_count_105 : decode cX7_count 105 = .ok (.ireturn, 1) := by decide +kernel
theorem dX7_count_106 : decode cX7_count 106 = .ok (.aload_n 0, 1) := by decide +kernel
theorem dX7_count_107 : decode cX7_count 107 = .ok (.invokevirtual 78, 3) := by decide +kernel
theorem dX7_count_110 : decode cX7_count 110 = .ok (.invokestatic 112, 3) := by decide +kernel
theorem dX7_count_113 : decode cX7_count 113 = .ok (.ireturn, 1) := by decide +kernel
theorem dX7_count_114 : decode cX7_count 114 = .ok (.aload_n 0, 1) := by decide +kernel
theorem dX7_count_115 : decode cX7_count 115 = .ok (.getfield 7, 3) := by decide +kernel
theorem dX7_count_118 : decode cX7_count 118 = .ok (.bipush 9, 2) := by decide +kernel
theorem dX7_count_120 : decode cX7_count 120 = .ok (.iaload, 1) := by decide +kernel
theorem dX7_count_121 : decode cX7_count 121 = .ok (.invokestatic 112, 3) := by decide +kernel
theorem dX7_count_124 : decode cX7_count 124 = .ok (.ireturn, 1) := by decide +kernel
theorem dX7_count_125 : decode cX7_count 125 = .ok (.aload_n 0, 1) := by decide +kernel
theorem dX7_count_126 : decode cX7_count 126 = .ok (.invokevirtual 105, 3) := by decide +kernel
theorem dX7_count_129 : decode cX7_count 129 = .ok (.ireturn, 1) := by decide +kernel
theorem dX7_count_130 : decode cX7_count 130 = .ok (.aload_n 0, 1) := by decide +kernel
theorem dX7_count_131 : decode cX7_count 131 = .ok (.invokevirtual 115, 3) := by decide +kernel
theorem dX7_count_134 : decode cX7_count 134 = .ok (.ireturn, 1) := by decide +kernel
theorem dX7_count_135 : decode cX7_count 135 = .ok (.aload_n 0, 1) := by decide +kernel
theorem dX7_count_136 : decode cX7_count 136 = .ok (.iload_n 1, 1) := by decide +kernel
theorem dX7_count_137 : decode cX7_count 137 = .ok (.bipush 7, 2) := by decide +kernel
theorem dX7_count_139 : decode cX7_count 139 = .ok (.if_icmp .ne 7, 3) := by decide +kernel
theorem dX7_count_142 : decode cX7_count 142 = .ok (.iconst 2, 1) := by decide +kernel
theorem dX7_count_143 : decode cX7_count 143 = .ok (.goto 4, 3) := by decide +kernel
theorem dX7_count_146 : decode cX7_count 146 = .ok (.iconst 3, 1) := by decide +kernel
theorem dX7_count_147 : decode cX7_count 147 = .ok (.invokevirtual 226, 3) := by decide +kernel
theorem dX7_count_150 : decode cX7_count 150 = .ok (.ireturn, 1) := by decide +kernel
theorem dX7_count_151 : decode cX7_count 151 = .ok (.aload_n 0, 1) := by decide +kernel
theorem dX7_count_152 : decode cX7_count 152 = .ok (.aload_n 0, 1) := by decide +kernel
theorem dX7_count_153 : decode cX7_count 153 = .ok (.getfield 7, 3) := by decide +kernel
theorem dX7_count_156 : decode cX7_count 156 = .ok (.iconst 1, 1) := by decide +kernel
theorem dX7_count_157 : decode cX7_count 157 = .ok (.iaload, 1) := by decide +kernel
theorem dX7_count_158 : decode cX7_count 158 = .ok (.invokevirtual 229, 3) := by decide +kernel
theorem dX7_count_161 : decode cX7_count 161 = .ok (.ireturn, 1) := by decide +kernel
theorem dX7_count_162 : decode cX7_count 162 = .ok (.aload_n 0, 1) := by decide +kernel
theorem dX7_count_163 : decode cX7_count 163 = .ok (.getfield 7, 3) := by decide +kernel
theorem dX7_count_166 : decode cX7_count 166 = .ok (.iconst 4, 1) := by decide +kernel
theorem dX7_count_167 : decode cX7_count 167 = .ok (.iload_n 1, 1) := by decide +kernel
theorem dX7_count_168 : decode cX7_count 168 = .ok (.iadd, 1) := by decide +kernel
theorem dX7_count_169 : decode cX7_count 169 = .ok (.bipush 10, 2) := by decide +kernel
theorem dX7_count_171 : decode cX7_count 171 = .ok (.isub, 1) := by decide +kernel
theorem dX7_count_172 : decode cX7_count 172 = .ok (.iaload, 1) := by decide +kernel
theorem dX7_count_173 : decode cX7_count 173 = .ok (.ireturn, 1) := by decide +kernel
theorem dX7_count_174 : decode cX7_count 174 = .ok (.aload_n 0, 1) := by decide +kernel
theorem dX7_count_175 : decode cX7_count 175 = .ok (.getfield 7, 3) := by decide +kernel
theorem dX7_count_178 : decode cX7_count 178 = .ok (.iconst 2, 1) := by decide +kernel
theorem dX7_count_179 : decode cX7_count 179 = .ok (.iaload, 1) := by decide +kernel
theorem dX7_count_180 : decode cX7_count 180 = .ok (.ireturn, 1) := by decide +kernel
theorem dX7_count_181 : decode cX7_count 181 = .ok (.aload_n 0, 1) := by decide +kernel
theorem dX7_count_182 : decode cX7_count 182 = .ok (.getfield 7, 3) := by decide +kernel
theorem dX7_count_185 : decode cX7_count 185 = .ok (.iconst 3, 1) := by decide +kernel
theorem dX7_count_186 : decode cX7_count 186 = .ok (.iaload, 1) := by decide +kernel
theorem dX7_count_187 : decode cX7_count 187 = .ok (.ireturn, 1) := by decide +kernel
theorem dX7_count_188 : decode cX7_count 188 = .ok (.aload_n 0, 1) := by decide +kernel
theorem dX7_count_189 : decode cX7_count 189 = .ok (.getfield 145, 3) := by decide +kernel
theorem dX7_count_192 : decode cX7_count 192 = .ok (.ireturn, 1) := by decide +kernel
theorem dX7_count_193 : decode cX7_count 193 = .ok (.aload_n 0, 1) := by decide +kernel
theorem dX7_count_194 : decode cX7_count 194 = .ok (.getfield 33, 3) := by decide +kernel
theorem dX7_count_197 : decode cX7_count 197 = .ok (.ireturn, 1) := by decide +kernel
theorem dX7_count_198 : decode cX7_count 198 = .ok (.iconst (-1), 1) := by decide +kernel
theorem dX7_count_199 : decode cX7_count 199 = .ok (.ireturn, 1) := by decide +kernel
theorem dX7_cleanness_0 : decode cX7_cleanness 0 = .ok (.aload_n 0, 1) := by decide +kernel
theorem dX7_cleanness_1 : decode cX7_cleanness 1 = .ok (.invokevirtual 105, 3) := by decide +kernel
theorem dX7_cleanness_4 : decode cX7_cleanness 4 = .ok (.ifCond .ne 7, 3) := by decide +kernel
theorem dX7_cleanness_7 : decode cX7_cleanness 7 = .ok (.dconst 1, 1) := by decide +kernel
theorem dX7_cleanness_8 : decode cX7_cleanness 8 = .ok (.goto 14, 3) := by decide +kernel
theorem dX7_cleanness_11 : decode cX7_cleanness 11 = .ok (.aload_n 0, 1) := by decide +kernel
theorem dX7_cleanness_12 : decode cX7_cleanness 12 = .ok (.invokevirtual 115, 3) := by decide +kernel
theorem dX7_cleanness_15 : decode cX7_cleanness 15 = .ok (.i2d, 1) := by decide +kernel
theorem dX7_cleanness_16 : decode cX7_cleanness 16 = .ok (.aload_n 0, 1) := by decide +kernel
theorem dX7_cleanness_17 : decode cX7_cleanness 17 = .ok (.invokevirtual 105, 3) := by decide +kernel
theorem dX7_cleanness_20 : decode cX7_cleanness 20 = .ok (.i2d, 1) := by decide +kernel
theorem dX7_cleanness_21 : decode cX7_cleanness 21 = .ok (.ddiv, 1) := by decide +kernel
theorem dX7_cleanness_22 : decode cX7_cleanness 22 = .ok (.dreturn, 1) := by decide +kernel
theorem dX7_ifWind_0 : decode cX7_ifWind 0 = .ok (.iload_n 1, 1) := by decide +kernel
theorem dX7_ifWind_1 : decode cX7_ifWind 1 = .ok (.iconst 0, 1) := by decide +kernel
theorem dX7_ifWind_2 : decode cX7_ifWind 2 = .ok (.iconst 3, 1) := by decide +kernel
theorem dX7_ifWind_3 : decode cX7_ifWind 3 = .ok (.invokestatic 41, 3) := by decide +kernel
theorem dX7_ifWind_6 : decode cX7_ifWind 6 = .ok (.ifCond .eq 11, 3) := by decide +kernel
theorem dX7_ifWind_9 : decode cX7_ifWind 9 = .ok (.aload_n 0, 1) := by decide +kernel
theorem dX7_ifWind_10 : decode cX7_ifWind 10 = .ok (.iload_n 1, 1) := by decide +kernel
theorem dX7_ifWind_11 : decode cX7_ifWind 11 = .ok (.invokevirtual 229, 3) := by decide +kernel
theorem dX7_ifWind_14 : decode cX7_ifWind 14 = .ok (.goto 4, 3) := by decide +kernel
theorem dX7_ifWind_17 : decode cX7_ifWind 17 = .ok (.iconst (-1), 1) := by decide +kernel
theorem dX7_ifWind_18 : decode cX7_ifWind 18 = .ok (.ireturn, 1) := by decide +kernel
theorem dX7_bestWind_0 : decode cX7_bestWind 0 = .ok (.iconst 0, 1) := by decide +kernel
theorem dX7_bestWind_1 : decode cX7_bestWind 1 = .ok (.istore_n 1, 1) := by decide +kernel
theorem dX7_bestWind_2 : decode cX7_bestWind 2 = .ok (.iconst 1, 1) := by decide +kernel
theorem dX7_bestWind_3 : decode cX7_bestWind 3 = .ok (.istore_n 2, 1) := by decide +kernel
theorem dX7_bestWind_4 : decode cX7_bestWind 4 = .ok (.iload_n 2, 1) := by decide +kernel
theorem dX7_bestWind_5 : decode cX7_bestWind 5 = .ok (.iconst 4, 1) := by decide +kernel
theorem dX7_bestWind_6 : decode cX7_bestWind 6 = .ok (.if_icmp .ge 28, 3) := by decide +kernel
theorem dX7_bestWind_9 : decode cX7_bestWind 9 = .ok (.aload_n 0, 1) := by decide +kernel
theorem dX7_bestWind_10 : decode cX7_bestWind 10 = .ok (.iload_n 2, 1) := by decide +kernel
theorem dX7_bestWind_11 : decode cX7_bestWind 11 = .ok (.invokevirtual 229, 3) := by decide +kernel
theorem dX7_bestWind_14 : decode cX7_bestWind 14 = .ok (.aload_n 0, 1) := by decide +kernel
theorem dX7_bestWind_15 : decode cX7_bestWind 15 = .ok (.iload_n 1, 1) := by decide +kernel
theorem dX7_bestWind_16 : decode cX7_bestWind 16 = .ok (.invokevirtual 229, 3) := by decide +kernel
theorem dX7_bestWind_19 : decode cX7_bestWind 19 = .ok (.if_icmp .ge 7, 3) := by decide +kernel
theorem dX7_bestWind_22 : decode cX7_bestWind 22 = .ok (.iload_n 2, 1) := by decide +kernel
theorem dX7_bestWind_23 : decode cX7_bestWind 23 = .ok (.goto 4, 3) := by decide +kernel
theorem dX7_bestWind_26 : decode cX7_bestWind 26 = .ok (.iload_n 1, 1) := by decide +kernel
theorem dX7_bestWind_27 : decode cX7_bestWind 27 = .ok (.istore_n 1, 1) := by decide +kernel
theorem dX7_bestWind_28 : decode cX7_bestWind 28 = .ok (.iinc 2 1, 3) := by decide +kernel
theorem dX7_bestWind_31 : decode cX7_bestWind 31 = .ok (.goto (-27), 3) := by decide +kernel
theorem dX7_bestWind_34 : decode cX7_bestWind 34 = .ok (.iload_n 1, 1) := by decide +kernel
theorem dX7_bestWind_35 : decode cX7_bestWind 35 = .ok (.ireturn, 1) := by decide +kernel
theorem dX7_ifDays_0 : decode cX7_ifDays 0 = .ok (.iload_n 1, 1) := by decide +kernel
theorem dX7_ifDays_1 : decode cX7_ifDays 1 = .ok (.iconst 1, 1) := by decide +kernel
theorem dX7_ifDays_2 : decode cX7_ifDays 2 = .ok (.bipush 30, 2) := by decide +kernel
theorem dX7_ifDays_4 : decode cX7_ifDays 4 = .ok (.invokestatic 41, 3) := by decide +kernel
theorem dX7_ifDays_7 : decode cX7_ifDays 7 = .ok (.ifCond .eq 12, 3) := by decide +kernel
theorem dX7_ifDays_10 : decode cX7_ifDays 10 = .ok (.iload_n 2, 1) := by decide +kernel
theorem dX7_ifDays_11 : decode cX7_ifDays 11 = .ok (.iconst 0, 1) := by decide +kernel
theorem dX7_ifDays_12 : decode cX7_ifDays 12 = .ok (.iconst 3, 1) := by decide +kernel
theorem dX7_ifDays_13 : decode cX7_ifDays 13 = .ok (.invokestatic 41, 3) := by decide +kernel
theorem dX7_ifDays_16 : decode cX7_ifDays 16 = .ok (.ifCond .ne 5, 3) := by decide +kernel
theorem dX7_ifDays_19 : decode cX7_ifDays 19 = .ok (.iconst (-1), 1) := by decide +kernel
theorem dX7_ifDays_20 : decode cX7_ifDays 20 = .ok (.ireturn, 1) := by decide +kernel
theorem dX7_ifDays_21 : decode cX7_ifDays 21 = .ok (.aload_n 0, 1) := by decide +kernel
theorem dX7_ifDays_22 : decode cX7_ifDays 22 = .ok (.getfield 7, 3) := by decide +kernel
theorem dX7_ifDays_25 : decode cX7_ifDays 25 = .ok (.iconst 0, 1) := by decide +kernel
theorem dX7_ifDays_26 : decode cX7_ifDays 26 = .ok (.aload_n 0, 1) := by decide +kernel
theorem dX7_ifDays_27 : decode cX7_ifDays 27 = .ok (.getfield 13, 3) := by decide +kernel
theorem dX7_ifDays_30 : decode cX7_ifDays 30 = .ok (.iconst 0, 1) := by decide +kernel
theorem dX7_ifDays_31 : decode cX7_ifDays 31 = .ok (.invokestatic 37, 3) := by decide +kernel
theorem dX7_ifDays_34 : decode cX7_ifDays 34 = .ok (.iconst 0, 1) := by decide +kernel
theorem dX7_ifDays_35 : decode cX7_ifDays 35 = .ok (.istore_n 3, 1) := by decide +kernel
theorem dX7_ifDays_36 : decode cX7_ifDays 36 = .ok (.iconst 0, 1) := by decide +kernel
theorem dX7_ifDays_37 : decode cX7_ifDays 37 = .ok (.istore 4, 2) := by decide +kernel
theorem dX7_ifDays_39 : decode cX7_ifDays 39 = .ok (.iload 4, 2) := by decide +kernel
theorem dX7_ifDays_41 : decode cX7_ifDays 41 = .ok (.iload_n 1, 1) := by decide +kernel
theorem dX7_ifDays_42 : decode cX7_ifDays 42 = .ok (.if_icmp .ge 14, 3) := by decide +kernel
theorem dX7_ifDays_45 : decode cX7_ifDays 45 = .ok (.aload_n 0, 1) := by decide +kernel
theorem dX7_ifDays_46 : decode cX7_ifDays 46 = .ok (.invokevirtual 142, 3) := by decide +kernel
theorem dX7_ifDays_49 : decode cX7_ifDays 49 = .ok (.istore_n 3, 1) := by decide +kernel
theorem dX7_ifDays_50 : decode cX7_ifDays 50 = .ok (.iinc 4 1, 3) := by decide +kernel
theorem dX7_ifDays_53 : decode cX7_ifDays 53 = .ok (.goto (-14), 3) := by decide +kernel
theorem dX7_ifDays_56 : decode cX7_ifDays 56 = .ok (.iload_n 2, 1) := by decide +kernel
theorem dX7_ifDays_57 : decode cX7_ifDays 57 = .ok (.ifCond .ne 7, 3) := by decide +kernel
theorem dX7_ifDays_60 : decode cX7_ifDays 60 = .ok (.iload_n 3, 1) := by decide +kernel
theorem dX7_ifDays_61 : decode cX7_ifDays 61 = .ok (.goto 35, 3) := by decide +kernel
theorem dX7_ifDays_64 : decode cX7_ifDays 64 = .ok (.iload_n 2, 1) := by decide +kernel
theorem dX7_ifDays_65 : decode cX7_ifDays 65 = .ok (.iconst 1, 1) := by decide +kernel
theorem dX7_ifDays_66 : decode cX7_ifDays 66 = .ok (.if_icmp .ne 11, 3) := by decide +kernel
theorem dX7_ifDays_69 : decode cX7_ifDays 69 = .ok (.aload_n 0, 1) := by decide +kernel
theorem dX7_ifDays_70 : decode cX7_ifDays 70 = .ok (.iconst 2, 1) := by decide +kernel
theorem dX7_ifDays_71 : decode cX7_ifDays 71 = .ok (.invokevirtual 226, 3) := by decide +kernel
theorem dX7_ifDays_74 : decode cX7_ifDays 74 = .ok (.goto 22, 3) := by decide +kernel
theorem dX7_ifDays_77 : decode cX7_ifDays 77 = .ok (.iload_n 2, 1) := by decide +kernel
theorem dX7_ifDays_78 : decode cX7_ifDays 78 = .ok (.iconst 2, 1) := by decide +kernel
theorem dX7_ifDays_79 : decode cX7_ifDays 79 = .ok (.if_icmp .ne 11, 3) := by decide +kernel
theorem dX7_ifDays_82 : decode cX7_ifDays 82 = .ok (.aload_n 0, 1) := by decide +kernel
theorem dX7_ifDays_83 : decode cX7_ifDays 83 = .ok (.iconst 3, 1) := by decide +kernel
theorem dX7_ifDays_84 : decode cX7_ifDays 84 = .ok (.invokevirtual 226, 3) := by decide +kernel
theorem dX7_ifDays_87 : decode cX7_ifDays 87 = .ok (.goto 9, 3) := by decide +kernel
theorem dX7_ifDays_90 : decode cX7_ifDays 90 = .ok (.aload_n 0, 1) := by decide +kernel
theorem dX7_ifDays_91 : decode cX7_ifDays 91 = .ok (.getfield 7, 3) := by decide +kernel
theorem dX7_ifDays_94 : decode cX7_ifDays 94 = .ok (.iconst 1, 1) := by decide +kernel
theorem dX7_ifDays_95 : decode cX7_ifDays 95 = .ok (.iaload, 1) := by decide +kernel
theorem dX7_ifDays_96 : decode cX7_ifDays 96 = .ok (.istore 4, 2) := by decide +kernel
theorem dX7_ifDays_98 : decode cX7_ifDays 98 = .ok (.aload_n 0, 1) := by decide +kernel
theorem dX7_ifDays_99 : decode cX7_ifDays 99 = .ok (.getfield 13, 3) := by decide +kernel
theorem dX7_ifDays_102 : decode cX7_ifDays 102 = .ok (.iconst 0, 1) := by decide +kernel
theorem dX7_ifDays_103 : decode cX7_ifDays 103 = .ok (.aload_n 0, 1) := by decide +kernel
theorem dX7_ifDays_104 : decode cX7_ifDays 104 = .ok (.getfield 7, 3) := by decide +kernel
theorem dX7_ifDays_107 : decode cX7_ifDays 107 = .ok (.iconst 0, 1) := by decide +kernel
theorem dX7_ifDays_108 : decode cX7_ifDays 108 = .ok (.invokestatic 37, 3) := by decide +kernel
theorem dX7_ifDays_111 : decode cX7_ifDays 111 = .ok (.iload 4, 2) := by decide +kernel
theorem dX7_ifDays_113 : decode cX7_ifDays 113 = .ok (.ireturn, 1) := by decide +kernel
theorem dX7_windsOver_0 : decode cX7_windsOver 0 = .ok (.iconst 0, 1) := by decide +kernel
theorem dX7_windsOver_1 : decode cX7_windsOver 1 = .ok (.istore_n 2, 1) := by decide +kernel
theorem dX7_windsOver_2 : decode cX7_windsOver 2 = .ok (.iconst 0, 1) := by decide +kernel
theorem dX7_windsOver_3 : decode cX7_windsOver 3 = .ok (.istore_n 3, 1) := by decide +kernel
theorem dX7_windsOver_4 : decode cX7_windsOver 4 = .ok (.iload_n 3, 1) := by decide +kernel
theorem dX7_windsOver_5 : decode cX7_windsOver 5 = .ok (.iconst 4, 1) := by decide +kernel
theorem dX7_windsOver_6 : decode cX7_windsOver 6 = .ok (.if_icmp .ge 31, 3) := by decide +kernel
theorem dX7_windsOver_9 : decode cX7_windsOver 9 = .ok (.iload_n 2, 1) := by decide +kernel
theorem dX7_windsOver_10 : decode cX7_windsOver 10 = .ok (.aload_n 0, 1) := by decide +kernel
theorem dX7_windsOver_11 : decode cX7_windsOver 11 = .ok (.iload_n 3, 1) := by decide +kernel
theorem dX7_windsOver_12 : decode cX7_windsOver 12 = .ok (.invokevirtual 69, 3) := by decide +kernel
theorem dX7_windsOver_15 : decode cX7_windsOver 15 = .ok (.aload_n 0, 1) := by decide +kernel
theorem dX7_windsOver_16 : decode cX7_windsOver 16 = .ok (.iload_n 1, 1) := by decide +kernel
theorem dX7_windsOver_17 : decode cX7_windsOver 17 = .ok (.invokevirtual 75, 3) := by decide +kernel
theorem dX7_windsOver_20 : decode cX7_windsOver 20 = .ok (.iand, 1) := by decide +kernel
theorem dX7_windsOver_21 : decode cX7_windsOver 21 = .ok (.ifCond .eq 7, 3) := by decide +kernel
theorem dX7_windsOver_24 : decode cX7_windsOver 24 = .ok (.iconst 1, 1) := by decide +kernel
theorem dX7_windsOver_25 : decode cX7_windsOver 25 = .ok (.goto 4, 3) := by decide +kernel
theorem dX7_windsOver_28 : decode cX7_windsOver 28 = .ok (.iconst 0, 1) := by decide +kernel
theorem dX7_windsOver_29 : decode cX7_windsOver 29 = .ok (.iadd, 1) := by decide +kernel
theorem dX7_windsOver_30 : decode cX7_windsOver 30 = .ok (.istore_n 2, 1) := by decide +kernel
theorem dX7_windsOver_31 : decode cX7_windsOver 31 = .ok (.iinc 3 1, 3) := by decide +kernel
theorem dX7_windsOver_34 : decode cX7_windsOver 34 = .ok (.goto (-30), 3) := by decide +kernel
theorem dX7_windsOver_37 : decode cX7_windsOver 37 = .ok (.iload_n 2, 1) := by decide +kernel
theorem dX7_windsOver_38 : decode cX7_windsOver 38 = .ok (.ireturn, 1) := by decide +kernel
theorem dX7_bestPlace_0 : decode cX7_bestPlace 0 = .ok (.iload_n 1, 1) := by decide +kernel
theorem dX7_bestPlace_1 : decode cX7_bestPlace 1 = .ok (.invokestatic 127, 3) := by decide +kernel
theorem dX7_bestPlace_4 : decode cX7_bestPlace 4 = .ok (.ifCond .ne 5, 3) := by decide +kernel
theorem dX7_bestPlace_7 : decode cX7_bestPlace 7 = .ok (.iconst (-1), 1) := by decide +kernel
theorem dX7_bestPlace_8 : decode cX7_bestPlace 8 = .ok (.ireturn, 1) := by decide +kernel
theorem dX7_bestPlace_9 : decode cX7_bestPlace 9 = .ok (.bipush (-4), 2) := by decide +kernel
theorem dX7_bestPlace_11 : decode cX7_bestPlace 11 = .ok (.istore_n 2, 1) := by decide +kernel
theorem dX7_bestPlace_12 : decode cX7_bestPlace 12 = .ok (.iconst 5, 1) := by decide +kernel
theorem dX7_bestPlace_13 : decode cX7_bestPlace 13 = .ok (.istore_n 3, 1) := by decide +kernel
theorem dX7_bestPlace_14 : decode cX7_bestPlace 14 = .ok (.iconst 0, 1) := by decide +kernel
theorem dX7_bestPlace_15 : decode cX7_bestPlace 15 = .ok (.istore 4, 2) := by decide +kernel
theorem dX7_bestPlace_17 : decode cX7_bestPlace 17 = .ok (.iload 4, 2) := by decide +kernel
theorem dX7_bestPlace_19 : decode cX7_bestPlace 19 = .ok (.bipush 28, 2) := by decide +kernel
theorem dX7_bestPlace_21 : decode cX7_bestPlace 21 = .ok (.if_icmp .ge 65, 3) := by decide +kernel
theorem dX7_bestPlace_24 : decode cX7_bestPlace 24 = .ok (.iload 4, 2) := by decide +kernel
theorem dX7_bestPlace_26 : decode cX7_bestPlace 26 = .ok (.invokestatic 29, 3) := by decide +kernel
theorem dX7_bestPlace_29 : decode cX7_bestPlace 29 = .ok (.ifCond .eq 22, 3) := by decide +kernel
theorem dX7_bestPlace_32 : decode cX7_bestPlace 32 = .ok (.aload_n 0, 1) := by decide +kernel
theorem dX7_bestPlace_33 : decode cX7_bestPlace 33 = .ok (.iload_n 1, 1) := by decide +kernel
theorem dX7_bestPlace_34 : decode cX7_bestPlace 34 = .ok (.iload 4, 2) := by decide +kernel
theorem dX7_bestPlace_36 : decode cX7_bestPlace 36 = .ok (.invokevirtual 95, 3) := by decide +kernel
theorem dX7_bestPlace_39 : decode cX7_bestPlace 39 = .ok (.ifCond .ne 12, 3) := by decide +kernel
theorem dX7_bestPlace_42 : decode cX7_bestPlace 42 = .ok (.aload_n 0, 1) := by decide +kernel
theorem dX7_bestPlace_43 : decode cX7_bestPlace 43 = .ok (.iload 4, 2) := by decide +kernel
theorem dX7_bestPlace_45 : decode cX7_bestPlace 45 = .ok (.invokevirtual 232, 3) := by decide +kernel
theorem dX7_bestPlace_48 : decode cX7_bestPlace 48 = .ok (.goto 4, 3) := by decide +kernel
theorem dX7_bestPlace_51 : decode cX7_bestPlace 51 = .ok (.iconst 5, 1) := by decide +kernel
theorem dX7_bestPlace_52 : decode cX7_bestPlace 52 = .ok (.istore 5, 2) := by decide +kernel
theorem dX7_bestPlace_54 : decode cX7_bestPlace 54 = .ok (.iload 5, 2) := by decide +kernel
theorem dX7_bestPlace_56 : decode cX7_bestPlace 56 = .ok (.iload_n 3, 1) := by decide +kernel
theorem dX7_bestPlace_57 : decode cX7_bestPlace 57 = .ok (.if_icmp .ge 8, 3) := by decide +kernel
theorem dX7_bestPlace_60 : decode cX7_bestPlace 60 = .ok (.iload 4, 2) := by decide +kernel
theorem dX7_bestPlace_62 : decode cX7_bestPlace 62 = .ok (.goto 4, 3) := by decide +kernel
theorem dX7_bestPlace_65 : decode cX7_bestPlace 65 = .ok (.iload_n 2, 1) := by decide +kernel
theorem dX7_bestPlace_66 : decode cX7_bestPlace 66 = .ok (.istore_n 2, 1) := by decide +kernel
theorem dX7_bestPlace_67 : decode cX7_bestPlace 67 = .ok (.iload 5, 2) := by decide +kernel
theorem dX7_bestPlace_69 : decode cX7_bestPlace 69 = .ok (.iload_n 3, 1) := by decide +kernel
theorem dX7_bestPlace_70 : decode cX7_bestPlace 70 = .ok (.if_icmp .ge 8, 3) := by decide +kernel
theorem dX7_bestPlace_73 : decode cX7_bestPlace 73 = .ok (.iload 5, 2) := by decide +kernel
theorem dX7_bestPlace_75 : decode cX7_bestPlace 75 = .ok (.goto 4, 3) := by decide +kernel
theorem dX7_bestPlace_78 : decode cX7_bestPlace 78 = .ok (.iload_n 3, 1) := by decide +kernel
theorem dX7_bestPlace_79 : decode cX7_bestPlace 79 = .ok (.istore_n 3, 1) := by decide +kernel
theorem dX7_bestPlace_80 : decode cX7_bestPlace 80 = .ok (.iinc 4 1, 3) := by decide +kernel
theorem dX7_bestPlace_83 : decode cX7_bestPlace 83 = .ok (.goto (-66), 3) := by decide +kernel
theorem dX7_bestPlace_86 : decode cX7_bestPlace 86 = .ok (.iload_n 2, 1) := by decide +kernel
theorem dX7_bestPlace_87 : decode cX7_bestPlace 87 = .ok (.ireturn, 1) := by decide +kernel
theorem dX7_undo_0 : decode cX7_undo 0 = .ok (.aload_n 0, 1) := by decide +kernel
theorem dX7_undo_1 : decode cX7_undo 1 = .ok (.getfield 33, 3) := by decide +kernel
theorem dX7_undo_4 : decode cX7_undo 4 = .ok (.ifCond .ne 6, 3) := by decide +kernel
theorem dX7_undo_7 : decode cX7_undo 7 = .ok (.bipush (-2), 2) := by decide +kernel
theorem dX7_undo_9 : decode cX7_undo 9 = .ok (.ireturn, 1) := by decide +kernel
theorem dX7_undo_10 : decode cX7_undo 10 = .ok (.aload_n 0, 1) := by decide +kernel
theorem dX7_undo_11 : decode cX7_undo 11 = .ok (.dup, 1) := by decide +kernel
theorem dX7_undo_12 : decode cX7_undo 12 = .ok (.getfield 33, 3) := by decide +kernel
theorem dX7_undo_15 : decode cX7_undo 15 = .ok (.iconst 1, 1) := by decide +kernel
theorem dX7_undo_16 : decode cX7_undo 16 = .ok (.isub, 1) := by decide +kernel
theorem dX7_undo_17 : decode cX7_undo 17 = .ok (.putfield 33, 3) := by decide +kernel
theorem dX7_undo_20 : decode cX7_undo 20 = .ok (.aload_n 0, 1) := by decide +kernel
theorem dX7_undo_21 : decode cX7_undo 21 = .ok (.getfield 16, 3) := by decide +kernel
theorem dX7_undo_24 : decode cX7_undo 24 = .ok (.sipush 142, 3) := by decide +kernel
theorem dX7_undo_27 : decode cX7_undo 27 = .ok (.aload_n 0, 1) := by decide +kernel
theorem dX7_undo_28 : decode cX7_undo 28 = .ok (.getfield 33, 3) := by decide +kernel
theorem dX7_undo_31 : decode cX7_undo 31 = .ok (.imul, 1) := by decide +kernel
theorem dX7_undo_32 : decode cX7_undo 32 = .ok (.aload_n 0, 1) := by decide +kernel
theorem dX7_undo_33 : decode cX7_undo 33 = .ok (.getfield 7, 3) := by decide +kernel
theorem dX7_undo_36 : decode cX7_undo 36 = .ok (.iconst 0, 1) := by decide +kernel
theorem dX7_undo_37 : decode cX7_undo 37 = .ok (.invokestatic 37, 3) := by decide +kernel
theorem dX7_undo_40 : decode cX7_undo 40 = .ok (.aload_n 0, 1) := by decide +kernel
theorem dX7_undo_41 : decode cX7_undo 41 = .ok (.getfield 33, 3) := by decide +kernel
theorem dX7_undo_44 : decode cX7_undo 44 = .ok (.ireturn, 1) := by decide +kernel
theorem dX7_save_0 : decode cX7_save 0 = .ok (.aload_n 0, 1) := by decide +kernel
theorem dX7_save_1 : decode cX7_save 1 = .ok (.getfield 7, 3) := by decide +kernel
theorem dX7_save_4 : decode cX7_save 4 = .ok (.iconst 0, 1) := by decide +kernel
theorem dX7_save_5 : decode cX7_save 5 = .ok (.aload_n 0, 1) := by decide +kernel
theorem dX7_save_6 : decode cX7_save 6 = .ok (.getfield 19, 3) := by decide +kernel
theorem dX7_save_9 : decode cX7_save 9 = .ok (.iconst 0, 1) := by decide +kernel
theorem dX7_save_10 : decode cX7_save 10 = .ok (.invokestatic 37, 3) := by decide +kernel
theorem dX7_save_13 : decode cX7_save 13 = .ok (.aload_n 0, 1) := by decide +kernel
theorem dX7_save_14 : decode cX7_save 14 = .ok (.iconst 1, 1) := by decide +kernel
theorem dX7_save_15 : decode cX7_save 15 = .ok (.putfield 235, 3) := by decide +kernel
theorem dX7_save_18 : decode cX7_save 18 = .ok (.aload_n 0, 1) := by decide +kernel
theorem dX7_save_19 : decode cX7_save 19 = .ok (.invokevirtual 105, 3) := by decide +kernel
theorem dX7_save_22 : decode cX7_save 22 = .ok (.ireturn, 1) := by decide +kernel
theorem dX7_restore_0 : decode cX7_restore 0 = .ok (.aload_n 0, 1) := by decide +kernel
theorem dX7_restore_1 : decode cX7_restore 1 = .ok (.getfield 235, 3) := by decide +kernel
theorem dX7_restore_4 : decode cX7_restore 4 = .ok (.ifCond .ne 6, 3) := by decide +kernel
theorem dX7_restore_7 : decode cX7_restore 7 = .ok (.bipush (-2), 2) := by decide +kernel
theorem dX7_restore_9 : decode cX7_restore 9 = .ok (.ireturn, 1) := by decide +kernel
theorem dX7_restore_10 : decode cX7_restore 10 = .ok (.aload_n 0, 1) := by decide +kernel
theorem dX7_restore_11 : decode cX7_restore 11 = .ok (.invokevirtual 118, 3) := by decide +kernel
theorem dX7_restore_14 : decode cX7_restore 14 = .ok (.aload_n 0, 1) := by decide +kernel
theorem dX7_restore_15 : decode cX7_restore 15 = .ok (.getfield 19, 3) := by decide +kernel
theorem dX7_restore_18 : decode cX7_restore 18 = .ok (.iconst 0, 1) := by decide +kernel
theorem dX7_restore_19 : decode cX7_restore 19 = .ok (.aload_n 0, 1) := by decide +kernel
theorem dX7_restore_20 : decode cX7_restore 20 = .ok (.getfield 7, 3) := by decide +kernel
theorem dX7_restore_23 : decode cX7_restore 23 = .ok (.iconst 0, 1) := by decide +kernel
theorem dX7_restore_24 : decode cX7_restore 24 = .ok (.invokestatic 37, 3) := by decide +kernel
theorem dX7_restore_27 : decode cX7_restore 27 = .ok (.aload_n 0, 1) := by decide +kernel
theorem dX7_restore_28 : decode cX7_restore 28 = .ok (.invokevirtual 105, 3) := by decide +kernel
theorem dX7_restore_31 : decode cX7_restore 31 = .ok (.ireturn, 1) := by decide +kernel
end
section
theorem dL_law_0 : decode cL_law 0 = .ok (.new 7, 3) := by decide +kernel
theorem dL_law_3 : decode cL_law 3 = .ok (.dup, 1) := by decide +kernel
theorem dL_law_4 : decode cL_law 4 = .ok (.invokespecial 9, 3) := by decide +kernel
theorem dL_law_7 : decode cL_law 7 = .ok (.astore_n 1, 1) := by decide +kernel
theorem dL_law_8 : decode cL_law 8 = .ok (.new 10, 3) := by decide +kernel
theorem dL_law_11 : decode cL_law 11 = .ok (.dup, 1) := by decide +kernel
theorem dL_law_12 : decode cL_law 12 = .ok (.invokespecial 12, 3) := by decide +kernel
theorem dL_law_15 : decode cL_law 15 = .ok (.astore_n 2, 1) := by decide +kernel
theorem dL_law_16 : decode cL_law 16 = .ok (.iconst 0, 1) := by decide +kernel
theorem dL_law_17 : decode cL_law 17 = .ok (.istore_n 3, 1) := by decide +kernel
theorem dL_law_18 : decode cL_law 18 = .ok (.iload_n 3, 1) := by decide +kernel
theorem dL_law_19 : decode cL_law 19 = .ok (.aload_n 0, 1) := by decide +kernel
theorem dL_law_20 : decode cL_law 20 = .ok (.arraylength, 1) := by decide +kernel
theorem dL_law_21 : decode cL_law 21 = .ok (.iconst 5, 1) := by decide +kernel
theorem dL_law_22 : decode cL_law 22 = .ok (.isub, 1) := by decide +kernel
theorem dL_law_23 : decode cL_law 23 = .ok (.if_icmp .gt 945, 3) := by decide +kernel
theorem dL_law_26 : decode cL_law 26 = .ok (.aload_n 0, 1) := by decide +kernel
theorem dL_law_27 : decode cL_law 27 = .ok (.iload_n 3, 1) := by decide +kernel
theorem dL_law_28 : decode cL_law 28 = .ok (.iaload, 1) := by decide +kernel
theorem dL_law_29 : decode cL_law 29 = .ok (.bipush 31, 2) := by decide +kernel
theorem dL_law_31 : decode cL_law 31 = .ok (.iand, 1) := by decide +kernel
theorem dL_law_32 : decode cL_law 32 = .ok (.tableswitch 930 0 29 #[136, 169, 192, 215, 238, 307, 330, 363, 396, 429, 442, 465, 478, 491, 504, 527, 560, 593, 626, 659, 702, 735, 758, 799, 822, 835, 868, 891, 904, 917], 136) := by decide +kernel
theorem dL_law_168 : decode cL_law 168 = .ok (.aload_n 1, 1) := by decide +kernel
theorem dL_law_169 : decode cL_law 169 = .ok (.aload_n 0, 1) := by decide +kernel
theorem dL_law_170 : decode cL_law 170 = .ok (.iload_n 3, 1) := by decide +kernel
theorem dL_law_171 : decode cL_law 171 = .ok (.iconst 1, 1) := by decide +kernel
theorem dL_law_172 : decode cL_law 172 = .ok (.iadd, 1) := by decide +kernel
theorem dL_law_173 : decode cL_law 173 = .ok (.iaload, 1) := by decide +kernel
theorem dL_law_174 : decode cL_law 174 = .ok (.aload_n 0, 1) := by decide +kernel
theorem dL_law_175 : decode cL_law 175 = .ok (.iload_n 3, 1) := by decide +kernel
theorem dL_law_176 : decode cL_law 176 = .ok (.iconst 2, 1) := by decide +kernel
theorem dL_law_177 : decode cL_law 177 = .ok (.iadd, 1) := by decide +kernel
theorem dL_law_178 : decode cL_law 178 = .ok (.iaload, 1) := by decide +kernel
theorem dL_law_179 : decode cL_law 179 = .ok (.invokevirtual 13, 3) := by decide +kernel
theorem dL_law_182 : decode cL_law 182 = .ok (.aload_n 2, 1) := by decide +kernel
theorem dL_law_183 : decode cL_law 183 = .ok (.aload_n 0, 1) := by decide +kernel
theorem dL_law_184 : decode cL_law 184 = .ok (.iload_n 3, 1) := by decide +kernel
theorem dL_law_185 : decode cL_law 185 = .ok (.iconst 1, 1) := by decide +kernel
theorem dL_law_186 : decode cL_law 186 = .ok (.iadd, 1) := by decide +kernel
theorem dL_law_187 : decode cL_law 187 = .ok (.iaload, 1) := by decide +kernel
theorem dL_law_188 : decode cL_law 188 = .ok (.aload_n 0, 1) := by decide +kernel
theorem dL_law_189 : decode cL_law 189 = .ok (.iload_n 3, 1) := by decide +kernel
theorem dL_law_190 : decode cL_law 190 = .ok (.iconst 2, 1) := by decide +kernel
theorem dL_law_191 : decode cL_law 191 = .ok (.iadd, 1) := by decide +kernel
theorem dL_law_192 : decode cL_law 192 = .ok (.iaload, 1) := by decide +kernel
theorem dL_law_193 : decode cL_law 193 = .ok (.invokevirtual 17, 3) := by decide +kernel
theorem dL_law_196 : decode cL_law 196 = .ok (.if_icmp .eq 766, 3) := by decide +kernel
theorem dL_law_199 : decode cL_law 199 = .ok (.iconst 0, 1) := by decide +kernel
theorem dL_law_200 : decode cL_law 200 = .ok (.ireturn, 1) := by decide +kernel
theorem dL_law_201 : decode cL_law 201 = .ok (.aload_n 1, 1) := by decide +kernel
theorem dL_law_202 : decode cL_law 202 = .ok (.aload_n 0, 1) := by decide +kernel
theorem dL_law_203 : decode cL_law 203 = .ok (.iload_n 3, 1) := by decide +kernel
theorem dL_law_204 : decode cL_law 204 = .ok (.iconst 1, 1) := by decide +kernel
theorem dL_law_205 : decode cL_law 205 = .ok (.iadd, 1) := by decide +kernel
theorem dL_law_206 : decode cL_law 206 = .ok (.iaload, 1) := by decide +kernel
theorem dL_law_207 : decode cL_law 207 = .ok (.invokevirtual 18, 3) := by decide +kernel
theorem dL_law_210 : decode cL_law 210 = .ok (.aload_n 2, 1) := by decide +kernel
theorem dL_law_211 : decode cL_law 211 = .ok (.aload_n 0, 1) := by decide +kernel
theorem dL_law_212 : decode cL_law 212 = .ok (.iload_n 3, 1) := by decide +kernel
theorem dL_law_213 : decode cL_law 213 = .ok (.iconst 1, 1) := by decide +kernel
theorem dL_law_214 : decode cL_law 214 = .ok (.iadd, 1) := by decide +kernel
theorem dL_law_215 : decode cL_law 215 = .ok (.iaload, 1) := by decide +kernel
theorem dL_law_216 : decode cL_law 216 = .ok (.invokevirtual 22, 3) := by decide +kernel
theorem dL_law_219 : decode cL_law 219 = .ok (.if_icmp .eq 743, 3) := by decide +kernel
theorem dL_law_222 : decode cL_law 222 = .ok (.iconst 0, 1) := by decide +kernel
theorem dL_law_223 : decode cL_law 223 = .ok (.ireturn, 1) := by decide +kernel
theorem dL_law_224 : decode cL_law 224 = .ok (.aload_n 1, 1) := by decide +kernel
theorem dL_law_225 : decode cL_law 225 = .ok (.aload_n 0, 1) := by decide +kernel
theorem dL_law_226 : decode cL_law 226 = .ok (.iload_n 3, 1) := by decide +kernel
theorem dL_law_227 : decode cL_law 227 = .ok (.iconst 1, 1) := by decide +kernel
theorem dL_law_228 : decode cL_law 228 = .ok (.iadd, 1) := by decide +kernel
theorem dL_law_229 : decode cL_law 229 = .ok (.iaload, 1) := by decide +kernel
theorem dL_law_230 : decode cL_law 230 = .ok (.invokevirtual 23, 3) := by decide +kernel
theorem dL_law_233 : decode cL_law 233 = .ok (.aload_n 2, 1) := by decide +kernel
theorem dL_law_234 : decode cL_law 234 = .ok (.aload_n 0, 1) := by decide +kernel
theorem dL_law_235 : decode cL_law 235 = .ok (.iload_n 3, 1) := by decide +kernel
theorem dL_law_236 : decode cL_law 236 = .ok (.iconst 1, 1) := by decide +kernel
theorem dL_law_237 : decode cL_law 237 = .ok (.iadd, 1) := by decide +kernel
theorem dL_law_238 : decode cL_law 238 = .ok (.iaload, 1) := by decide +kernel
theorem dL_law_239 : decode cL_law 239 = .ok (.invokevirtual 26, 3) := by decide +kernel
theorem dL_law_242 : decode cL_law 242 = .ok (.if_icmp .eq 720, 3) := by decide +kernel
theorem dL_law_245 : decode cL_law 245 = .ok (.iconst 0, 1) := by decide +kernel
theorem dL_law_246 : decode cL_law 246 = .ok (.ireturn, 1) := by decide +kernel
theorem dL_law_247 : decode cL_law 247 = .ok (.aload_n 1, 1) := by decide +kernel
theorem dL_law_248 : decode cL_law 248 = .ok (.aload_n 0, 1) := by decide +kernel
theorem dL_law_249 : decode cL_law 249 = .ok (.iload_n 3, 1) := by decide +kernel
theorem dL_law_250 : decode cL_law 250 = .ok (.iconst 1, 1) := by decide +kernel
theorem dL_law_251 : decode cL_law 251 = .ok (.iadd, 1) := by decide +kernel
theorem dL_law_252 : decode cL_law 252 = .ok (.iaload, 1) := by decide +kernel
theorem dL_law_253 : decode cL_law 253 = .ok (.invokevirtual 27, 3) := by decide +kernel
theorem dL_law_256 : decode cL_law 256 = .ok (.aload_n 2, 1) := by decide +kernel
theorem dL_law_257 : decode cL_law 257 = .ok (.aload_n 0, 1) := by decide +kernel
theorem dL_law_258 : decode cL_law 258 = .ok (.iload_n 3, 1) := by decide +kernel
theorem dL_law_259 : decode cL_law 259 = .ok (.iconst 1, 1) := by decide +kernel
theorem dL_law_260 : decode cL_law 260 = .ok (.iadd, 1) := by decide +kernel
theorem dL_law_261 : decode cL_law 261 = .ok (.iaload, 1) := by decide +kernel
theorem dL_law_262 : decode cL_law 262 = .ok (.invokevirtual 30, 3) := by decide +kernel
theorem dL_law_265 : decode cL_law 265 = .ok (.if_icmp .eq 697, 3) := by decide +kernel
theorem dL_law_268 : decode cL_law 268 = .ok (.iconst 0, 1) := by decide +kernel
theorem dL_law_269 : decode cL_law 269 = .ok (.ireturn, 1) := by decide +kernel
theorem dL_law_270 : decode cL_law 270 = .ok (.aload_n 1, 1) := by decide +kernel
theorem dL_law_271 : decode cL_law 271 = .ok (.aload_n 0, 1) := by decide +kernel
theorem dL_law_272 : decode cL_law 272 = .ok (.iload_n 3, 1) := by decide +kernel
theorem dL_law_273 : decode cL_law 273 = .ok (.iconst 1, 1) := by decide +kernel
theorem dL_law_274 : decode cL_law 274 = .ok (.iadd, 1) := by decide +kernel
theorem dL_law_275 : decode cL_law 275 = .ok (.iaload, 1) := by decide +kernel
theorem dL_law_276 : decode cL_law 276 = .ok (.aload_n 0, 1) := by decide +kernel
theorem dL_law_277 : decode cL_law 277 = .ok (.iload_n 3, 1) := by decide +kernel
theorem dL_law_278 : decode cL_law 278 = .ok (.iconst 2, 1) := by decide +kernel
theorem dL_law_279 : decode cL_law 279 = .ok (.iadd, 1) := by decide +kernel
theorem dL_law_280 : decode cL_law 280 = .ok (.iaload, 1) := by decide +kernel
theorem dL_law_281 : decode cL_law 281 = .ok (.aload_n 0, 1) := by decide +kernel
theorem dL_law_282 : decode cL_law 282 = .ok (.iload_n 3, 1) := by decide +kernel
theorem dL_law_283 : decode cL_law 283 = .ok (.iconst 3, 1) := by decide +kernel
theorem dL_law_284 : decode cL_law 284 = .ok (.iadd, 1) := by decide +kernel
theorem dL_law_285 : decode cL_law 285 = .ok (.iaload, 1) := by decide +kernel
theorem dL_law_286 : decode cL_law 286 = .ok (.aload_n 0, 1) := by decide +kernel
theorem dL_law_287 : decode cL_law 287 = .ok (.iload_n 3, 1) := by decide +kernel
theorem dL_law_288 : decode cL_law 288 = .ok (.iconst 4, 1) := by decide +kernel
theorem dL_law_289 : decode cL_law 289 = .ok (.iadd, 1) := by decide +kernel
theorem dL_law_290 : decode cL_law 290 = .ok (.iaload, 1) := by decide +kernel
theorem dL_law_291 : decode cL_law 291 = .ok (.ifCond .eq 7, 3) := by decide +kernel
theorem dL_law_294 : decode cL_law 294 = .ok (.iconst 1, 1) := by decide +kernel
theorem dL_law_295 : decode cL_law 295 = .ok (.goto 4, 3) := by decide +kernel
theorem dL_law_298 : decode cL_law 298 = .ok (.iconst 0, 1) := by decide +kernel
theorem dL_law_299 : decode cL_law 299 = .ok (.invokevirtual 31, 3) := by decide +kernel
theorem dL_law_302 : decode cL_law 302 = .ok (.aload_n 2, 1) := by decide +kernel
theorem dL_law_303 : decode cL_law 303 = .ok (.aload_n 0, 1) := by decide +kernel
theorem dL_law_304 : decode cL_law 304 = .ok (.iload_n 3, 1) := by decide +kernel
theorem dL_law_305 : decode cL_law 305 = .ok (.iconst 1, 1) := by decide +kernel
theorem dL_law_306 : decode cL_law 306 = .ok (.iadd, 1) := by decide +kernel
theorem dL_law_307 : decode cL_law 307 = .ok (.iaload, 1) := by decide +kernel
theorem dL_law_308 : decode cL_law 308 = .ok (.aload_n 0, 1) := by decide +kernel
theorem dL_law_309 : decode cL_law 309 = .ok (.iload_n 3, 1) := by decide +kernel
theorem dL_law_310 : decode cL_law 310 = .ok (.iconst 2, 1) := by decide +kernel
theorem dL_law_311 : decode cL_law 311 = .ok (.iadd, 1) := by decide +kernel
theorem dL_law_312 : decode cL_law 312 = .ok (.iaload, 1) := by decide +kernel
theorem dL_law_313 : decode cL_law 313 = .ok (.aload_n 0, 1) := by decide +kernel
theorem dL_law_314 : decode cL_law 314 = .ok (.iload_n 3, 1) := by decide +kernel
theorem dL_law_315 : decode cL_law 315 = .ok (.iconst 3, 1) := by decide +kernel
theorem dL_law_316 : decode cL_law 316 = .ok (.iadd, 1) := by decide +kernel
theorem dL_law_317 : decode cL_law 317 = .ok (.iaload, 1) := by decide +kernel
theorem dL_law_318 : decode cL_law 318 = .ok (.aload_n 0, 1) := by decide +kernel
theorem dL_law_319 : decode cL_law 319 = .ok (.iload_n 3, 1) := by decide +kernel
theorem dL_law_320 : decode cL_law 320 = .ok (.iconst 4, 1) := by decide +kernel
theorem dL_law_321 : decode cL_law 321 = .ok (.iadd, 1) := by decide +kernel
theorem dL_law_322 : decode cL_law 322 = .ok (.iaload, 1) := by decide +kernel
theorem dL_law_323 : decode cL_law 323 = .ok (.ifCond .eq 7, 3) := by decide +kernel
theorem dL_law_326 : decode cL_law 326 = .ok (.iconst 1, 1) := by decide +kernel
theorem dL_law_327 : decode cL_law 327 = .ok (.goto 4, 3) := by decide +kernel
theorem dL_law_330 : decode cL_law 330 = .ok (.iconst 0, 1) := by decide +kernel
theorem dL_law_331 : decode cL_law 331 = .ok (.invokevirtual 35, 3) := by decide +kernel
theorem dL_law_334 : decode cL_law 334 = .ok (.if_icmp .eq 628, 3) := by decide +kernel
theorem dL_law_337 : decode cL_law 337 = .ok (.iconst 0, 1) := by decide +kernel
theorem dL_law_338 : decode cL_law 338 = .ok (.ireturn, 1) := by decide +kernel
theorem dL_law_339 : decode cL_law 339 = .ok (.aload_n 1, 1) := by decide +kernel
theorem dL_law_340 : decode cL_law 340 = .ok (.aload_n 0, 1) := by decide +kernel
theorem dL_law_341 : decode cL_law 341 = .ok (.iload_n 3, 1) := by decide +kernel
theorem dL_law_342 : decode cL_law 342 = .ok (.iconst 1, 1) := by decide +kernel
theorem dL_law_343 : decode cL_law 343 = .ok (.iadd, 1) := by decide +kernel
theorem dL_law_344 : decode cL_law 344 = .ok (.iaload, 1) := by decide +kernel
theorem dL_law_345 : decode cL_law 345 = .ok (.invokevirtual 36, 3) := by decide +kernel
theorem dL_law_348 : decode cL_law 348 = .ok (.aload_n 2, 1) := by decide +kernel
theorem dL_law_349 : decode cL_law 349 = .ok (.aload_n 0, 1) := by decide +kernel
theorem dL_law_350 : decode cL_law 350 = .ok (.iload_n 3, 1) := by decide +kernel
theorem dL_law_351 : decode cL_law 351 = .ok (.iconst 1, 1) := by decide +kernel
theorem dL_law_352 : decode cL_law 352 = .ok (.iadd, 1) := by decide +kernel
theorem dL_law_353 : decode cL_law 353 = .ok (.iaload, 1) := by decide +kernel
theorem dL_law_354 : decode cL_law 354 = .ok (.invokevirtual 39, 3) := by decide +kernel
theorem dL_law_357 : decode cL_law 357 = .ok (.if_icmp .eq 605, 3) := by decide +kernel
theorem dL_law_360 : decode cL_law 360 = .ok (.iconst 0, 1) := by decide +kernel
theorem dL_law_361 : decode cL_law 361 = .ok (.ireturn, 1) := by decide +kernel
theorem dL_law_362 : decode cL_law 362 = .ok (.aload_n 1, 1) := by decide +kernel
theorem dL_law_363 : decode cL_law 363 = .ok (.aload_n 0, 1) := by decide +kernel
theorem dL_law_364 : decode cL_law 364 = .ok (.iload_n 3, 1) := by decide +kernel
theorem dL_law_365 : decode cL_law 365 = .ok (.iconst 1, 1) := by decide +kernel
theorem dL_law_366 : decode cL_law 366 = .ok (.iadd, 1) := by decide +kernel
theorem dL_law_367 : decode cL_law 367 = .ok (.iaload, 1) := by decide +kernel
theorem dL_law_368 : decode cL_law 368 = .ok (.aload_n 0, 1) := by decide +kernel
theorem dL_law_369 : decode cL_law 369 = .ok (.iload_n 3, 1) := by decide +kernel
theorem dL_law_370 : decode cL_law 370 = .ok (.iconst 2, 1) := by decide +kernel
theorem dL_law_371 : decode cL_law 371 = .ok (.iadd, 1) := by decide +kernel
theorem dL_law_372 : decode cL_law 372 = .ok (.iaload, 1) := by decide +kernel
theorem dL_law_373 : decode cL_law 373 = .ok (.invokevirtual 40, 3) := by decide +kernel
theorem dL_law_376 : decode cL_law 376 = .ok (.aload_n 2, 1) := by decide +kernel
theorem dL_law_377 : decode cL_law 377 = .ok (.aload_n 0, 1) := by decide +kernel
theorem dL_law_378 : decode cL_law 378 = .ok (.iload_n 3, 1) := by decide +kernel
theorem dL_law_379 : decode cL_law 379 = .ok (.iconst 1, 1) := by decide +kernel
theorem dL_law_380 : decode cL_law 380 = .ok (.iadd, 1) := by decide +kernel
theorem dL_law_381 : decode cL_law 381 = .ok (.iaload, 1) := by decide +kernel
theorem dL_law_382 : decode cL_law 382 = .ok (.aload_n 0, 1) := by decide +kernel
theorem dL_law_383 : decode cL_law 383 = .ok (.iload_n 3, 1) := by decide +kernel
theorem dL_law_384 : decode cL_law 384 = .ok (.iconst 2, 1) := by decide +kernel
theorem dL_law_385 : decode cL_law 385 = .ok (.iadd, 1) := by decide +kernel
theorem dL_law_386 : decode cL_law 386 = .ok (.iaload, 1) := by decide +kernel
theorem dL_law_387 : decode cL_law 387 = .ok (.invokevirtual 43, 3) := by decide +kernel
theorem dL_law_390 : decode cL_law 390 = .ok (.if_icmp .eq 572, 3) := by decide +kernel
theorem dL_law_393 : decode cL_law 393 = .ok (.iconst 0, 1) := by decide +kernel
theorem dL_law_394 : decode cL_law 394 = .ok (.ireturn, 1) := by decide +kernel
theorem dL_law_395 : decode cL_law 395 = .ok (.aload_n 1, 1) := by decide +kernel
theorem dL_law_396 : decode cL_law 396 = .ok (.aload_n 0, 1) := by decide +kernel
theorem dL_law_397 : decode cL_law 397 = .ok (.iload_n 3, 1) := by decide +kernel
theorem dL_law_398 : decode cL_law 398 = .ok (.iconst 1, 1) := by decide +kernel
theorem dL_law_399 : decode cL_law 399 = .ok (.iadd, 1) := by decide +kernel
theorem dL_law_400 : decode cL_law 400 = .ok (.iaload, 1) := by decide +kernel
theorem dL_law_401 : decode cL_law 401 = .ok (.aload_n 0, 1) := by decide +kernel
theorem dL_law_402 : decode cL_law 402 = .ok (.iload_n 3, 1) := by decide +kernel
theorem dL_law_403 : decode cL_law 403 = .ok (.iconst 2, 1) := by decide +kernel
theorem dL_law_404 : decode cL_law 404 = .ok (.iadd, 1) := by decide +kernel
theorem dL_law_405 : decode cL_law 405 = .ok (.iaload, 1) := by decide +kernel
theorem dL_law_406 : decode cL_law 406 = .ok (.invokevirtual 44, 3) := by decide +kernel
theorem dL_law_409 : decode cL_law 409 = .ok (.aload_n 2, 1) := by decide +kernel
theorem dL_law_410 : decode cL_law 410 = .ok (.aload_n 0, 1) := by decide +kernel
theorem dL_law_411 : decode cL_law 411 = .ok (.iload_n 3, 1) := by decide +kernel
theorem dL_law_412 : decode cL_law 412 = .ok (.iconst 1, 1) := by decide +kernel
theorem dL_law_413 : decode cL_law 413 = .ok (.iadd, 1) := by decide +kernel
theorem dL_law_414 : decode cL_law 414 = .ok (.iaload, 1) := by decide +kernel
theorem dL_law_415 : decode cL_law 415 = .ok (.aload_n 0, 1) := by decide +kernel
theorem dL_law_416 : decode cL_law 416 = .ok (.iload_n 3, 1) := by decide +kernel
theorem dL_law_417 : decode cL_law 417 = .ok (.iconst 2, 1) := by decide +kernel
theorem dL_law_418 : decode cL_law 418 = .ok (.iadd, 1) := by decide +kernel
theorem dL_law_419 : decode cL_law 419 = .ok (.iaload, 1) := by decide +kernel
theorem dL_law_420 : decode cL_law 420 = .ok (.invokevirtual 47, 3) := by decide +kernel
theorem dL_law_423 : decode cL_law 423 = .ok (.if_icmp .eq 539, 3) := by decide +kernel
theorem dL_law_426 : decode cL_law 426 = .ok (.iconst 0, 1) := by decide +kernel
theorem dL_law_427 : decode cL_law 427 = .ok (.ireturn, 1) := by decide +kernel
theorem dL_law_428 : decode cL_law 428 = .ok (.aload_n 1, 1) := by decide +kernel
theorem dL_law_429 : decode cL_law 429 = .ok (.aload_n 0, 1) := by decide +kernel
theorem dL_law_430 : decode cL_law 430 = .ok (.iload_n 3, 1) := by decide +kernel
theorem dL_law_431 : decode cL_law 431 = .ok (.iconst 1, 1) := by decide +kernel
theorem dL_law_432 : decode cL_law 432 = .ok (.iadd, 1) := by decide +kernel
theorem dL_law_433 : decode cL_law 433 = .ok (.iaload, 1) := by decide +kernel
theorem dL_law_434 : decode cL_law 434 = .ok (.aload_n 0, 1) := by decide +kernel
theorem dL_law_435 : decode cL_law 435 = .ok (.iload_n 3, 1) := by decide +kernel
theorem dL_law_436 : decode cL_law 436 = .ok (.iconst 2, 1) := by decide +kernel
theorem dL_law_437 : decode cL_law 437 = .ok (.iadd, 1) := by decide +kernel
theorem dL_law_438 : decode cL_law 438 = .ok (.iaload, 1) := by decide +kernel
theorem dL_law_439 : decode cL_law 439 = .ok (.invokevirtual 48, 3) := by decide +kernel
theorem dL_law_442 : decode cL_law 442 = .ok (.aload_n 2, 1) := by decide +kernel
theorem dL_law_443 : decode cL_law 443 = .ok (.aload_n 0, 1) := by decide +kernel
theorem dL_law_444 : decode cL_law 444 = .ok (.iload_n 3, 1) := by decide +kernel
theorem dL_law_445 : decode cL_law 445 = .ok (.iconst 1, 1) := by decide +kernel
theorem dL_law_446 : decode cL_law 446 = .ok (.iadd, 1) := by decide +kernel
theorem dL_law_447 : decode cL_law 447 = .ok (.iaload, 1) := by decide +kernel
theorem dL_law_448 : decode cL_law 448 = .ok (.aload_n 0, 1) := by decide +kernel
theorem dL_law_449 : decode cL_law 449 = .ok (.iload_n 3, 1) := by decide +kernel
theorem dL_law_450 : decode cL_law 450 = .ok (.iconst 2, 1) := by decide +kernel
theorem dL_law_451 : decode cL_law 451 = .ok (.iadd, 1) := by decide +kernel
theorem dL_law_452 : decode cL_law 452 = .ok (.iaload, 1) := by decide +kernel
theorem dL_law_453 : decode cL_law 453 = .ok (.invokevirtual 51, 3) := by decide +kernel
theorem dL_law_456 : decode cL_law 456 = .ok (.if_icmp .eq 506, 3) := by decide +kernel
theorem dL_law_459 : decode cL_law 459 = .ok (.iconst 0, 1) := by decide +kernel
theorem dL_law_460 : decode cL_law 460 = .ok (.ireturn, 1) := by decide +kernel
theorem dL_law_461 : decode cL_law 461 = .ok (.aload_n 1, 1) := by decide +kernel
theorem dL_law_462 : decode cL_law 462 = .ok (.invokevirtual 52, 3) := by decide +kernel
theorem dL_law_465 : decode cL_law 465 = .ok (.aload_n 2, 1) := by decide +kernel
theorem dL_law_466 : decode cL_law 466 = .ok (.invokevirtual 56, 3) := by decide +kernel
theorem dL_law_469 : decode cL_law 469 = .ok (.if_icmp .eq 493, 3) := by decide +kernel
theorem dL_law_472 : decode cL_law 472 = .ok (.iconst 0, 1) := by decide +kernel
theorem dL_law_473 : decode cL_law 473 = .ok (.ireturn, 1) := by decide +kernel
theorem dL_law_474 : decode cL_law 474 = .ok (.aload_n 1, 1) := by decide +kernel
theorem dL_law_475 : decode cL_law 475 = .ok (.aload_n 0, 1) := by decide +kernel
theorem dL_law_476 : decode cL_law 476 = .ok (.iload_n 3, 1) := by decide +kernel
theorem dL_law_477 : decode cL_law 477 = .ok (.iconst 1, 1) := by decide +kernel
theorem dL_law_478 : decode cL_law 478 = .ok (.iadd, 1) := by decide +kernel
theorem dL_law_479 : decode cL_law 479 = .ok (.iaload, 1) := by decide +kernel
theorem dL_law_480 : decode cL_law 480 = .ok (.invokevirtual 57, 3) := by decide +kernel
theorem dL_law_483 : decode cL_law 483 = .ok (.aload_n 2, 1) := by decide +kernel
theorem dL_law_484 : decode cL_law 484 = .ok (.aload_n 0, 1) := by decide +kernel
theorem dL_law_485 : decode cL_law 485 = .ok (.iload_n 3, 1) := by decide +kernel
theorem dL_law_486 : decode cL_law 486 = .ok (.iconst 1, 1) := by decide +kernel
theorem dL_law_487 : decode cL_law 487 = .ok (.iadd, 1) := by decide +kernel
theorem dL_law_488 : decode cL_law 488 = .ok (.iaload, 1) := by decide +kernel
theorem dL_law_489 : decode cL_law 489 = .ok (.invokevirtual 60, 3) := by decide +kernel
theorem dL_law_492 : decode cL_law 492 = .ok (.if_icmp .eq 470, 3) := by decide +kernel
theorem dL_law_495 : decode cL_law 495 = .ok (.iconst 0, 1) := by decide +kernel
theorem dL_law_496 : decode cL_law 496 = .ok (.ireturn, 1) := by decide +kernel
theorem dL_law_497 : decode cL_law 497 = .ok (.aload_n 1, 1) := by decide +kernel
theorem dL_law_498 : decode cL_law 498 = .ok (.invokevirtual 61, 3) := by decide +kernel
theorem dL_law_501 : decode cL_law 501 = .ok (.aload_n 2, 1) := by decide +kernel
theorem dL_law_502 : decode cL_law 502 = .ok (.invokevirtual 64, 3) := by decide +kernel
theorem dL_law_505 : decode cL_law 505 = .ok (.if_icmp .eq 457, 3) := by decide +kernel
theorem dL_law_508 : decode cL_law 508 = .ok (.iconst 0, 1) := by decide +kernel
theorem dL_law_509 : decode cL_law 509 = .ok (.ireturn, 1) := by decide +kernel
theorem dL_law_510 : decode cL_law 510 = .ok (.aload_n 1, 1) := by decide +kernel
theorem dL_law_511 : decode cL_law 511 = .ok (.invokevirtual 65, 3) := by decide +kernel
theorem dL_law_514 : decode cL_law 514 = .ok (.aload_n 2, 1) := by decide +kernel
theorem dL_law_515 : decode cL_law 515 = .ok (.invokevirtual 68, 3) := by decide +kernel
theorem dL_law_518 : decode cL_law 518 = .ok (.if_icmp .eq 444, 3) := by decide +kernel
theorem dL_law_521 : decode cL_law 521 = .ok (.iconst 0, 1) := by decide +kernel
theorem dL_law_522 : decode cL_law 522 = .ok (.ireturn, 1) := by decide +kernel
theorem dL_law_523 : decode cL_law 523 = .ok (.aload_n 1, 1) := by decide +kernel
theorem dL_law_524 : decode cL_law 524 = .ok (.invokevirtual 69, 3) := by decide +kernel
theorem dL_law_527 : decode cL_law 527 = .ok (.aload_n 2, 1) := by decide +kernel
theorem dL_law_528 : decode cL_law 528 = .ok (.invokevirtual 72, 3) := by decide +kernel
theorem dL_law_531 : decode cL_law 531 = .ok (.if_icmp .eq 431, 3) := by decide +kernel
theorem dL_law_534 : decode cL_law 534 = .ok (.iconst 0, 1) := by decide +kernel
theorem dL_law_535 : decode cL_law 535 = .ok (.ireturn, 1) := by decide +kernel
theorem dL_law_536 : decode cL_law 536 = .ok (.aload_n 1, 1) := by decide +kernel
theorem dL_law_537 : decode cL_law 537 = .ok (.aload_n 0, 1) := by decide +kernel
theorem dL_law_538 : decode cL_law 538 = .ok (.iload_n 3, 1) := by decide +kernel
theorem dL_law_539 : decode cL_law 539 = .ok (.iconst 1, 1) := by decide +kernel
theorem dL_law_540 : decode cL_law 540 = .ok (.iadd, 1) := by decide +kernel
theorem dL_law_541 : decode cL_law 541 = .ok (.iaload, 1) := by decide +kernel
theorem dL_law_542 : decode cL_law 542 = .ok (.invokevirtual 73, 3) := by decide +kernel
theorem dL_law_545 : decode cL_law 545 = .ok (.aload_n 2, 1) := by decide +kernel
theorem dL_law_546 : decode cL_law 546 = .ok (.aload_n 0, 1) := by decide +kernel
theorem dL_law_547 : decode cL_law 547 = .ok (.iload_n 3, 1) := by decide +kernel
theorem dL_law_548 : decode cL_law 548 = .ok (.iconst 1, 1) := by decide +kernel
theorem dL_law_549 : decode cL_law 549 = .ok (.iadd, 1) := by decide +kernel
theorem dL_law_550 : decode cL_law 550 = .ok (.iaload, 1) := by decide +kernel
theorem dL_law_551 : decode cL_law 551 = .ok (.invokevirtual 76, 3) := by decide +kernel
theorem dL_law_554 : decode cL_law 554 = .ok (.if_icmp .eq 408, 3) := by decide +kernel
theorem dL_law_557 : decode cL_law 557 = .ok (.iconst 0, 1) := by decide +kernel
theorem dL_law_558 : decode cL_law 558 = .ok (.ireturn, 1) := by decide +kernel
theorem dL_law_559 : decode cL_law 559 = .ok (.aload_n 1, 1) := by decide +kernel
theorem dL_law_560 : decode cL_law 560 = .ok (.aload_n 0, 1) := by decide +kernel
theorem dL_law_561 : decode cL_law 561 = .ok (.iload_n 3, 1) := by decide +kernel
theorem dL_law_562 : decode cL_law 562 = .ok (.iconst 1, 1) := by decide +kernel
theorem dL_law_563 : decode cL_law 563 = .ok (.iadd, 1) := by decide +kernel
theorem dL_law_564 : decode cL_law 564 = .ok (.iaload, 1) := by decide +kernel
theorem dL_law_565 : decode cL_law 565 = .ok (.aload_n 0, 1) := by decide +kernel
theorem dL_law_566 : decode cL_law 566 = .ok (.iload_n 3, 1) := by decide +kernel
theorem dL_law_567 : decode cL_law 567 = .ok (.iconst 2, 1) := by decide +kernel
theorem dL_law_568 : decode cL_law 568 = .ok (.iadd, 1) := by decide +kernel
theorem dL_law_569 : decode cL_law 569 = .ok (.iaload, 1) := by decide +kernel
theorem dL_law_570 : decode cL_law 570 = .ok (.invokevirtual 77, 3) := by decide +kernel
theorem dL_law_573 : decode cL_law 573 = .ok (.aload_n 2, 1) := by decide +kernel
theorem dL_law_574 : decode cL_law 574 = .ok (.aload_n 0, 1) := by decide +kernel
theorem dL_law_575 : decode cL_law 575 = .ok (.iload_n 3, 1) := by decide +kernel
theorem dL_law_576 : decode cL_law 576 = .ok (.iconst 1, 1) := by decide +kernel
theorem dL_law_577 : decode cL_law 577 = .ok (.iadd, 1) := by decide +kernel
theorem dL_law_578 : decode cL_law 578 = .ok (.iaload, 1) := by decide +kernel
theorem dL_law_579 : decode cL_law 579 = .ok (.aload_n 0, 1) := by decide +kernel
theorem dL_law_580 : decode cL_law 580 = .ok (.iload_n 3, 1) := by decide +kernel
theorem dL_law_581 : decode cL_law 581 = .ok (.iconst 2, 1) := by decide +kernel
theorem dL_law_582 : decode cL_law 582 = .ok (.iadd, 1) := by decide +kernel
theorem dL_law_583 : decode cL_law 583 = .ok (.iaload, 1) := by decide +kernel
theorem dL_law_584 : decode cL_law 584 = .ok (.invokevirtual 80, 3) := by decide +kernel
theorem dL_law_587 : decode cL_law 587 = .ok (.if_icmp .eq 375, 3) := by decide +kernel
theorem dL_law_590 : decode cL_law 590 = .ok (.iconst 0, 1) := by decide +kernel
theorem dL_law_591 : decode cL_law 591 = .ok (.ireturn, 1) := by decide +kernel
theorem dL_law_592 : decode cL_law 592 = .ok (.aload_n 1, 1) := by decide +kernel
theorem dL_law_593 : decode cL_law 593 = .ok (.aload_n 0, 1) := by decide +kernel
theorem dL_law_594 : decode cL_law 594 = .ok (.iload_n 3, 1) := by decide +kernel
theorem dL_law_595 : decode cL_law 595 = .ok (.iconst 1, 1) := by decide +kernel
theorem dL_law_596 : decode cL_law 596 = .ok (.iadd, 1) := by decide +kernel
theorem dL_law_597 : decode cL_law 597 = .ok (.iaload, 1) := by decide +kernel
theorem dL_law_598 : decode cL_law 598 = .ok (.aload_n 0, 1) := by decide +kernel
theorem dL_law_599 : decode cL_law 599 = .ok (.iload_n 3, 1) := by decide +kernel
theorem dL_law_600 : decode cL_law 600 = .ok (.iconst 2, 1) := by decide +kernel
theorem dL_law_601 : decode cL_law 601 = .ok (.iadd, 1) := by decide +kernel
theorem dL_law_602 : decode cL_law 602 = .ok (.iaload, 1) := by decide +kernel
theorem dL_law_603 : decode cL_law 603 = .ok (.invokevirtual 81, 3) := by decide +kernel
theorem dL_law_606 : decode cL_law 606 = .ok (.aload_n 2, 1) := by decide +kernel
theorem dL_law_607 : decode cL_law 607 = .ok (.aload_n 0, 1) := by decide +kernel
theorem dL_law_608 : decode cL_law 608 = .ok (.iload_n 3, 1) := by decide +kernel
theorem dL_law_609 : decode cL_law 609 = .ok (.iconst 1, 1) := by decide +kernel
theorem dL_law_610 : decode cL_law 610 = .ok (.iadd, 1) := by decide +kernel
theorem dL_law_611 : decode cL_law 611 = .ok (.iaload, 1) := by decide +kernel
theorem dL_law_612 : decode cL_law 612 = .ok (.aload_n 0, 1) := by decide +kernel
theorem dL_law_613 : decode cL_law 613 = .ok (.iload_n 3, 1) := by decide +kernel
theorem dL_law_614 : decode cL_law 614 = .ok (.iconst 2, 1) := by decide +kernel
theorem dL_law_615 : decode cL_law 615 = .ok (.iadd, 1) := by decide +kernel
theorem dL_law_616 : decode cL_law 616 = .ok (.iaload, 1) := by decide +kernel
theorem dL_law_617 : decode cL_law 617 = .ok (.invokevirtual 84, 3) := by decide +kernel
theorem dL_law_620 : decode cL_law 620 = .ok (.if_icmp .eq 342, 3) := by decide +kernel
theorem dL_law_623 : decode cL_law 623 = .ok (.iconst 0, 1) := by decide +kernel
theorem dL_law_624 : decode cL_law 624 = .ok (.ireturn, 1) := by decide +kernel
theorem dL_law_625 : decode cL_law 625 = .ok (.aload_n 1, 1) := by decide +kernel
theorem dL_law_626 : decode cL_law 626 = .ok (.aload_n 0, 1) := by decide +kernel
theorem dL_law_627 : decode cL_law 627 = .ok (.iload_n 3, 1) := by decide +kernel
theorem dL_law_628 : decode cL_law 628 = .ok (.iconst 1, 1) := by decide +kernel
theorem dL_law_629 : decode cL_law 629 = .ok (.iadd, 1) := by decide +kernel
theorem dL_law_630 : decode cL_law 630 = .ok (.iaload, 1) := by decide +kernel
theorem dL_law_631 : decode cL_law 631 = .ok (.aload_n 0, 1) := by decide +kernel
theorem dL_law_632 : decode cL_law 632 = .ok (.iload_n 3, 1) := by decide +kernel
theorem dL_law_633 : decode cL_law 633 = .ok (.iconst 2, 1) := by decide +kernel
theorem dL_law_634 : decode cL_law 634 = .ok (.iadd, 1) := by decide +kernel
theorem dL_law_635 : decode cL_law 635 = .ok (.iaload, 1) := by decide +kernel
theorem dL_law_636 : decode cL_law 636 = .ok (.invokevirtual 85, 3) := by decide +kernel
theorem dL_law_639 : decode cL_law 639 = .ok (.aload_n 2, 1) := by decide +kernel
theorem dL_law_640 : decode cL_law 640 = .ok (.aload_n 0, 1) := by decide +kernel
theorem dL_law_641 : decode cL_law 641 = .ok (.iload_n 3, 1) := by decide +kernel
theorem dL_law_642 : decode cL_law 642 = .ok (.iconst 1, 1) := by decide +kernel
theorem dL_law_643 : decode cL_law 643 = .ok (.iadd, 1) := by decide +kernel
theorem dL_law_644 : decode cL_law 644 = .ok (.iaload, 1) := by decide +kernel
theorem dL_law_645 : decode cL_law 645 = .ok (.aload_n 0, 1) := by decide +kernel
theorem dL_law_646 : decode cL_law 646 = .ok (.iload_n 3, 1) := by decide +kernel
theorem dL_law_647 : decode cL_law 647 = .ok (.iconst 2, 1) := by decide +kernel
theorem dL_law_648 : decode cL_law 648 = .ok (.iadd, 1) := by decide +kernel
theorem dL_law_649 : decode cL_law 649 = .ok (.iaload, 1) := by decide +kernel
theorem dL_law_650 : decode cL_law 650 = .ok (.invokevirtual 88, 3) := by decide +kernel
theorem dL_law_653 : decode cL_law 653 = .ok (.if_icmp .eq 309, 3) := by decide +kernel
theorem dL_law_656 : decode cL_law 656 = .ok (.iconst 0, 1) := by decide +kernel
theorem dL_law_657 : decode cL_law 657 = .ok (.ireturn, 1) := by decide +kernel
theorem dL_law_658 : decode cL_law 658 = .ok (.aload_n 1, 1) := by decide +kernel
theorem dL_law_659 : decode cL_law 659 = .ok (.aload_n 0, 1) := by decide +kernel
theorem dL_law_660 : decode cL_law 660 = .ok (.iload_n 3, 1) := by decide +kernel
theorem dL_law_661 : decode cL_law 661 = .ok (.iconst 1, 1) := by decide +kernel
theorem dL_law_662 : decode cL_law 662 = .ok (.iadd, 1) := by decide +kernel
theorem dL_law_663 : decode cL_law 663 = .ok (.iaload, 1) := by decide +kernel
theorem dL_law_664 : decode cL_law 664 = .ok (.aload_n 0, 1) := by decide +kernel
theorem dL_law_665 : decode cL_law 665 = .ok (.iload_n 3, 1) := by decide +kernel
theorem dL_law_666 : decode cL_law 666 = .ok (.iconst 2, 1) := by decide +kernel
theorem dL_law_667 : decode cL_law 667 = .ok (.iadd, 1) := by decide +kernel
theorem dL_law_668 : decode cL_law 668 = .ok (.iaload, 1) := by decide +kernel
theorem dL_law_669 : decode cL_law 669 = .ok (.invokevirtual 89, 3) := by decide +kernel
theorem dL_law_672 : decode cL_law 672 = .ok (.aload_n 2, 1) := by decide +kernel
theorem dL_law_673 : decode cL_law 673 = .ok (.aload_n 0, 1) := by decide +kernel
theorem dL_law_674 : decode cL_law 674 = .ok (.iload_n 3, 1) := by decide +kernel
theorem dL_law_675 : decode cL_law 675 = .ok (.iconst 1, 1) := by decide +kernel
theorem dL_law_676 : decode cL_law 676 = .ok (.iadd, 1) := by decide +kernel
theorem dL_law_677 : decode cL_law 677 = .ok (.iaload, 1) := by decide +kernel
theorem dL_law_678 : decode cL_law 678 = .ok (.aload_n 0, 1) := by decide +kernel
theorem dL_law_679 : decode cL_law 679 = .ok (.iload_n 3, 1) := by decide +kernel
theorem dL_law_680 : decode cL_law 680 = .ok (.iconst 2, 1) := by decide +kernel
theorem dL_law_681 : decode cL_law 681 = .ok (.iadd, 1) := by decide +kernel
theorem dL_law_682 : decode cL_law 682 = .ok (.iaload, 1) := by decide +kernel
theorem dL_law_683 : decode cL_law 683 = .ok (.invokevirtual 92, 3) := by decide +kernel
theorem dL_law_686 : decode cL_law 686 = .ok (.if_icmp .eq 276, 3) := by decide +kernel
theorem dL_law_689 : decode cL_law 689 = .ok (.iconst 0, 1) := by decide +kernel
theorem dL_law_690 : decode cL_law 690 = .ok (.ireturn, 1) := by decide +kernel
theorem dL_law_691 : decode cL_law 691 = .ok (.aload_n 1, 1) := by decide +kernel
theorem dL_law_692 : decode cL_law 692 = .ok (.aload_n 0, 1) := by decide +kernel
theorem dL_law_693 : decode cL_law 693 = .ok (.iload_n 3, 1) := by decide +kernel
theorem dL_law_694 : decode cL_law 694 = .ok (.iconst 1, 1) := by decide +kernel
theorem dL_law_695 : decode cL_law 695 = .ok (.iadd, 1) := by decide +kernel
theorem dL_law_696 : decode cL_law 696 = .ok (.iaload, 1) := by decide +kernel
theorem dL_law_697 : decode cL_law 697 = .ok (.aload_n 0, 1) := by decide +kernel
theorem dL_law_698 : decode cL_law 698 = .ok (.iload_n 3, 1) := by decide +kernel
theorem dL_law_699 : decode cL_law 699 = .ok (.iconst 2, 1) := by decide +kernel
theorem dL_law_700 : decode cL_law 700 = .ok (.iadd, 1) := by decide +kernel
theorem dL_law_701 : decode cL_law 701 = .ok (.iaload, 1) := by decide +kernel
theorem dL_law_702 : decode cL_law 702 = .ok (.aload_n 0, 1) := by decide +kernel
theorem dL_law_703 : decode cL_law 703 = .ok (.iload_n 3, 1) := by decide +kernel
theorem dL_law_704 : decode cL_law 704 = .ok (.iconst 3, 1) := by decide +kernel
theorem dL_law_705 : decode cL_law 705 = .ok (.iadd, 1) := by decide +kernel
theorem dL_law_706 : decode cL_law 706 = .ok (.iaload, 1) := by decide +kernel
theorem dL_law_707 : decode cL_law 707 = .ok (.invokevirtual 93, 3) := by decide +kernel
theorem dL_law_710 : decode cL_law 710 = .ok (.aload_n 2, 1) := by decide +kernel
theorem dL_law_711 : decode cL_law 711 = .ok (.aload_n 0, 1) := by decide +kernel
theorem dL_law_712 : decode cL_law 712 = .ok (.iload_n 3, 1) := by decide +kernel
theorem dL_law_713 : decode cL_law 713 = .ok (.iconst 1, 1) := by decide +kernel
theorem dL_law_714 : decode cL_law 714 = .ok (.iadd, 1) := by decide +kernel
theorem dL_law_715 : decode cL_law 715 = .ok (.iaload, 1) := by decide +kernel
theorem dL_law_716 : decode cL_law 716 = .ok (.aload_n 0, 1) := by decide +kernel
theorem dL_law_717 : decode cL_law 717 = .ok (.iload_n 3, 1) := by decide +kernel
theorem dL_law_718 : decode cL_law 718 = .ok (.iconst 2, 1) := by decide +kernel
theorem dL_law_719 : decode cL_law 719 = .ok (.iadd, 1) := by decide +kernel
theorem dL_law_720 : decode cL_law 720 = .ok (.iaload, 1) := by decide +kernel
theorem dL_law_721 : decode cL_law 721 = .ok (.aload_n 0, 1) := by decide +kernel
theorem dL_law_722 : decode cL_law 722 = .ok (.iload_n 3, 1) := by decide +kernel
theorem dL_law_723 : decode cL_law 723 = .ok (.iconst 3, 1) := by decide +kernel
theorem dL_law_724 : decode cL_law 724 = .ok (.iadd, 1) := by decide +kernel
theorem dL_law_725 : decode cL_law 725 = .ok (.iaload, 1) := by decide +kernel
theorem dL_law_726 : decode cL_law 726 = .ok (.invokevirtual 97, 3) := by decide +kernel
theorem dL_law_729 : decode cL_law 729 = .ok (.if_icmp .eq 233, 3) := by decide +kernel
theorem dL_law_732 : decode cL_law 732 = .ok (.iconst 0, 1) := by decide +kernel
theorem dL_law_733 : decode cL_law 733 = .ok (.ireturn, 1) := by decide +kernel
theorem dL_law_734 : decode cL_law 734 = .ok (.aload_n 1, 1) := by decide +kernel
theorem dL_law_735 : decode cL_law 735 = .ok (.aload_n 0, 1) := by decide +kernel
theorem dL_law_736 : decode cL_law 736 = .ok (.iload_n 3, 1) := by decide +kernel
theorem dL_law_737 : decode cL_law 737 = .ok (.iconst 1, 1) := by decide +kernel
theorem dL_law_738 : decode cL_law 738 = .ok (.iadd, 1) := by decide +kernel
theorem dL_law_739 : decode cL_law 739 = .ok (.iaload, 1) := by decide +kernel
theorem dL_law_740 : decode cL_law 740 = .ok (.aload_n 0, 1) := by decide +kernel
theorem dL_law_741 : decode cL_law 741 = .ok (.iload_n 3, 1) := by decide +kernel
theorem dL_law_742 : decode cL_law 742 = .ok (.iconst 2, 1) := by decide +kernel
theorem dL_law_743 : decode cL_law 743 = .ok (.iadd, 1) := by decide +kernel
theorem dL_law_744 : decode cL_law 744 = .ok (.iaload, 1) := by decide +kernel
theorem dL_law_745 : decode cL_law 745 = .ok (.invokevirtual 98, 3) := by decide +kernel
theorem dL_law_748 : decode cL_law 748 = .ok (.aload_n 2, 1) := by decide +kernel
theorem dL_law_749 : decode cL_law 749 = .ok (.aload_n 0, 1) := by decide +kernel
theorem dL_law_750 : decode cL_law 750 = .ok (.iload_n 3, 1) := by decide +kernel
theorem dL_law_751 : decode cL_law 751 = .ok (.iconst 1, 1) := by decide +kernel
theorem dL_law_752 : decode cL_law 752 = .ok (.iadd, 1) := by decide +kernel
theorem dL_law_753 : decode cL_law 753 = .ok (.iaload, 1) := by decide +kernel
theorem dL_law_754 : decode cL_law 754 = .ok (.aload_n 0, 1) := by decide +kernel
theorem dL_law_755 : decode cL_law 755 = .ok (.iload_n 3, 1) := by decide +kernel
theorem dL_law_756 : decode cL_law 756 = .ok (.iconst 2, 1) := by decide +kernel
theorem dL_law_757 : decode cL_law 757 = .ok (.iadd, 1) := by decide +kernel
theorem dL_law_758 : decode cL_law 758 = .ok (.iaload, 1) := by decide +kernel
theorem dL_law_759 : decode cL_law 759 = .ok (.invokevirtual 101, 3) := by decide +kernel
theorem dL_law_762 : decode cL_law 762 = .ok (.if_icmp .eq 200, 3) := by decide +kernel
theorem dL_law_765 : decode cL_law 765 = .ok (.iconst 0, 1) := by decide +kernel
theorem dL_law_766 : decode cL_law 766 = .ok (.ireturn, 1) := by decide +kernel
theorem dL_law_767 : decode cL_law 767 = .ok (.aload_n 1, 1) := by decide +kernel
theorem dL_law_768 : decode cL_law 768 = .ok (.aload_n 0, 1) := by decide +kernel
theorem dL_law_769 : decode cL_law 769 = .ok (.iload_n 3, 1) := by decide +kernel
theorem dL_law_770 : decode cL_law 770 = .ok (.iconst 1, 1) := by decide +kernel
theorem dL_law_771 : decode cL_law 771 = .ok (.iadd, 1) := by decide +kernel
theorem dL_law_772 : decode cL_law 772 = .ok (.iaload, 1) := by decide +kernel
theorem dL_law_773 : decode cL_law 773 = .ok (.invokevirtual 102, 3) := by decide +kernel
theorem dL_law_776 : decode cL_law 776 = .ok (.aload_n 2, 1) := by decide +kernel
theorem dL_law_777 : decode cL_law 777 = .ok (.aload_n 0, 1) := by decide +kernel
theorem dL_law_778 : decode cL_law 778 = .ok (.iload_n 3, 1) := by decide +kernel
theorem dL_law_779 : decode cL_law 779 = .ok (.iconst 1, 1) := by decide +kernel
theorem dL_law_780 : decode cL_law 780 = .ok (.iadd, 1) := by decide +kernel
theorem dL_law_781 : decode cL_law 781 = .ok (.iaload, 1) := by decide +kernel
theorem dL_law_782 : decode cL_law 782 = .ok (.invokevirtual 105, 3) := by decide +kernel
theorem dL_law_785 : decode cL_law 785 = .ok (.if_icmp .eq 177, 3) := by decide +kernel
theorem dL_law_788 : decode cL_law 788 = .ok (.iconst 0, 1) := by decide +kernel
theorem dL_law_789 : decode cL_law 789 = .ok (.ireturn, 1) := by decide +kernel
theorem dL_law_790 : decode cL_law 790 = .ok (.aload_n 1, 1) := by decide +kernel
theorem dL_law_791 : decode cL_law 791 = .ok (.invokevirtual 106, 3) := by decide +kernel
theorem dL_law_794 : decode cL_law 794 = .ok (.dstore 4, 2) := by decide +kernel
theorem dL_law_796 : decode cL_law 796 = .ok (.aload_n 2, 1) := by decide +kernel
theorem dL_law_797 : decode cL_law 797 = .ok (.invokevirtual 110, 3) := by decide +kernel
theorem dL_law_800 : decode cL_law 800 = .ok (.dstore 6, 2) := by decide +kernel
theorem dL_law_802 : decode cL_law 802 = .ok (.dload 4, 2) := by decide +kernel
theorem dL_law_804 : decode cL_law 804 = .ok (.dload 6, 2) := by decide +kernel
theorem dL_law_806 : decode cL_law 806 = .ok (.dcmp .l, 1) := by decide +kernel
theorem dL_law_807 : decode cL_law 807 = .ok (.ifCond .eq 21, 3) := by decide +kernel
theorem dL_law_810 : decode cL_law 810 = .ok (.dload 4, 2) := by decide +kernel
theorem dL_law_812 : decode cL_law 812 = .ok (.dload 4, 2) := by decide +kernel
theorem dL_law_814 : decode cL_law 814 = .ok (.dcmp .l, 1) := by decide +kernel
theorem dL_law_815 : decode cL_law 815 = .ok (.ifCond .eq 11, 3) := by decide +kernel
theorem dL_law_818 : decode cL_law 818 = .ok (.dload 6, 2) := by decide +kernel
theorem dL_law_820 : decode cL_law 820 = .ok (.dload 6, 2) := by decide +kernel
theorem dL_law_822 : decode cL_law 822 = .ok (.dcmp .l, 1) := by decide +kernel
theorem dL_law_823 : decode cL_law 823 = .ok (.ifCond .ne 5, 3) := by decide +kernel
theorem dL_law_826 : decode cL_law 826 = .ok (.iconst 0, 1) := by decide +kernel
theorem dL_law_827 : decode cL_law 827 = .ok (.ireturn, 1) := by decide +kernel
theorem dL_law_828 : decode cL_law 828 = .ok (.goto 134, 3) := by decide +kernel
theorem dL_law_831 : decode cL_law 831 = .ok (.aload_n 1, 1) := by decide +kernel
theorem dL_law_832 : decode cL_law 832 = .ok (.aload_n 0, 1) := by decide +kernel
theorem dL_law_833 : decode cL_law 833 = .ok (.iload_n 3, 1) := by decide +kernel
theorem dL_law_834 : decode cL_law 834 = .ok (.iconst 1, 1) := by decide +kernel
theorem dL_law_835 : decode cL_law 835 = .ok (.iadd, 1) := by decide +kernel
theorem dL_law_836 : decode cL_law 836 = .ok (.iaload, 1) := by decide +kernel
theorem dL_law_837 : decode cL_law 837 = .ok (.invokevirtual 111, 3) := by decide +kernel
theorem dL_law_840 : decode cL_law 840 = .ok (.aload_n 2, 1) := by decide +kernel
theorem dL_law_841 : decode cL_law 841 = .ok (.aload_n 0, 1) := by decide +kernel
theorem dL_law_842 : decode cL_law 842 = .ok (.iload_n 3, 1) := by decide +kernel
theorem dL_law_843 : decode cL_law 843 = .ok (.iconst 1, 1) := by decide +kernel
theorem dL_law_844 : decode cL_law 844 = .ok (.iadd, 1) := by decide +kernel
theorem dL_law_845 : decode cL_law 845 = .ok (.iaload, 1) := by decide +kernel
theorem dL_law_846 : decode cL_law 846 = .ok (.invokevirtual 114, 3) := by decide +kernel
theorem dL_law_849 : decode cL_law 849 = .ok (.if_icmp .eq 113, 3) := by decide +kernel
theorem dL_law_852 : decode cL_law 852 = .ok (.iconst 0, 1) := by decide +kernel
theorem dL_law_853 : decode cL_law 853 = .ok (.ireturn, 1) := by decide +kernel
theorem dL_law_854 : decode cL_law 854 = .ok (.aload_n 1, 1) := by decide +kernel
theorem dL_law_855 : decode cL_law 855 = .ok (.invokevirtual 115, 3) := by decide +kernel
theorem dL_law_858 : decode cL_law 858 = .ok (.aload_n 2, 1) := by decide +kernel
theorem dL_law_859 : decode cL_law 859 = .ok (.invokevirtual 118, 3) := by decide +kernel
theorem dL_law_862 : decode cL_law 862 = .ok (.if_icmp .eq 100, 3) := by decide +kernel
theorem dL_law_865 : decode cL_law 865 = .ok (.iconst 0, 1) := by decide +kernel
theorem dL_law_866 : decode cL_law 866 = .ok (.ireturn, 1) := by decide +kernel
theorem dL_law_867 : decode cL_law 867 = .ok (.aload_n 1, 1) := by decide +kernel
theorem dL_law_868 : decode cL_law 868 = .ok (.aload_n 0, 1) := by decide +kernel
theorem dL_law_869 : decode cL_law 869 = .ok (.iload_n 3, 1) := by decide +kernel
theorem dL_law_870 : decode cL_law 870 = .ok (.iconst 1, 1) := by decide +kernel
theorem dL_law_871 : decode cL_law 871 = .ok (.iadd, 1) := by decide +kernel
theorem dL_law_872 : decode cL_law 872 = .ok (.iaload, 1) := by decide +kernel
theorem dL_law_873 : decode cL_law 873 = .ok (.aload_n 0, 1) := by decide +kernel
theorem dL_law_874 : decode cL_law 874 = .ok (.iload_n 3, 1) := by decide +kernel
theorem dL_law_875 : decode cL_law 875 = .ok (.iconst 2, 1) := by decide +kernel
theorem dL_law_876 : decode cL_law 876 = .ok (.iadd, 1) := by decide +kernel
theorem dL_law_877 : decode cL_law 877 = .ok (.iaload, 1) := by decide +kernel
theorem dL_law_878 : decode cL_law 878 = .ok (.invokevirtual 119, 3) := by decide +kernel
theorem dL_law_881 : decode cL_law 881 = .ok (.aload_n 2, 1) := by decide +kernel
theorem dL_law_882 : decode cL_law 882 = .ok (.aload_n 0, 1) := by decide +kernel
theorem dL_law_883 : decode cL_law 883 = .ok (.iload_n 3, 1) := by decide +kernel
theorem dL_law_884 : decode cL_law 884 = .ok (.iconst 1, 1) := by decide +kernel
theorem dL_law_885 : decode cL_law 885 = .ok (.iadd, 1) := by decide +kernel
theorem dL_law_886 : decode cL_law 886 = .ok (.iaload, 1) := by decide +kernel
theorem dL_law_887 : decode cL_law 887 = .ok (.aload_n 0, 1) := by decide +kernel
theorem dL_law_888 : decode cL_law 888 = .ok (.iload_n 3, 1) := by decide +kernel
theorem dL_law_889 : decode cL_law 889 = .ok (.iconst 2, 1) := by decide +kernel
theorem dL_law_890 : decode cL_law 890 = .ok (.iadd, 1) := by decide +kernel
theorem dL_law_891 : decode cL_law 891 = .ok (.iaload, 1) := by decide +kernel
theorem dL_law_892 : decode cL_law 892 = .ok (.invokevirtual 122, 3) := by decide +kernel
theorem dL_law_895 : decode cL_law 895 = .ok (.if_icmp .eq 67, 3) := by decide +kernel
theorem dL_law_898 : decode cL_law 898 = .ok (.iconst 0, 1) := by decide +kernel
theorem dL_law_899 : decode cL_law 899 = .ok (.ireturn, 1) := by decide +kernel
theorem dL_law_900 : decode cL_law 900 = .ok (.aload_n 1, 1) := by decide +kernel
theorem dL_law_901 : decode cL_law 901 = .ok (.aload_n 0, 1) := by decide +kernel
theorem dL_law_902 : decode cL_law 902 = .ok (.iload_n 3, 1) := by decide +kernel
theorem dL_law_903 : decode cL_law 903 = .ok (.iconst 1, 1) := by decide +kernel
theorem dL_law_904 : decode cL_law 904 = .ok (.iadd, 1) := by decide +kernel
theorem dL_law_905 : decode cL_law 905 = .ok (.iaload, 1) := by decide +kernel
theorem dL_law_906 : decode cL_law 906 = .ok (.invokevirtual 123, 3) := by decide +kernel
theorem dL_law_909 : decode cL_law 909 = .ok (.aload_n 2, 1) := by decide +kernel
theorem dL_law_910 : decode cL_law 910 = .ok (.aload_n 0, 1) := by decide +kernel
theorem dL_law_911 : decode cL_law 911 = .ok (.iload_n 3, 1) := by decide +kernel
theorem dL_law_912 : decode cL_law 912 = .ok (.iconst 1, 1) := by decide +kernel
theorem dL_law_913 : decode cL_law 913 = .ok (.iadd, 1) := by decide +kernel
theorem dL_law_914 : decode cL_law 914 = .ok (.iaload, 1) := by decide +kernel
theorem dL_law_915 : decode cL_law 915 = .ok (.invokevirtual 126, 3) := by decide +kernel
theorem dL_law_918 : decode cL_law 918 = .ok (.if_icmp .eq 44, 3) := by decide +kernel
theorem dL_law_921 : decode cL_law 921 = .ok (.iconst 0, 1) := by decide +kernel
theorem dL_law_922 : decode cL_law 922 = .ok (.ireturn, 1) := by decide +kernel
theorem dL_law_923 : decode cL_law 923 = .ok (.aload_n 1, 1) := by decide +kernel
theorem dL_law_924 : decode cL_law 924 = .ok (.invokevirtual 127, 3) := by decide +kernel
theorem dL_law_927 : decode cL_law 927 = .ok (.aload_n 2, 1) := by decide +kernel
theorem dL_law_928 : decode cL_law 928 = .ok (.invokevirtual 130, 3) := by decide +kernel
theorem dL_law_931 : decode cL_law 931 = .ok (.if_icmp .eq 31, 3) := by decide +kernel
theorem dL_law_934 : decode cL_law 934 = .ok (.iconst 0, 1) := by decide +kernel
theorem dL_law_935 : decode cL_law 935 = .ok (.ireturn, 1) := by decide +kernel
theorem dL_law_936 : decode cL_law 936 = .ok (.aload_n 1, 1) := by decide +kernel
theorem dL_law_937 : decode cL_law 937 = .ok (.invokevirtual 131, 3) := by decide +kernel
theorem dL_law_940 : decode cL_law 940 = .ok (.aload_n 2, 1) := by decide +kernel
theorem dL_law_941 : decode cL_law 941 = .ok (.invokevirtual 134, 3) := by decide +kernel
theorem dL_law_944 : decode cL_law 944 = .ok (.if_icmp .eq 18, 3) := by decide +kernel
theorem dL_law_947 : decode cL_law 947 = .ok (.iconst 0, 1) := by decide +kernel
theorem dL_law_948 : decode cL_law 948 = .ok (.ireturn, 1) := by decide +kernel
theorem dL_law_949 : decode cL_law 949 = .ok (.aload_n 1, 1) := by decide +kernel
theorem dL_law_950 : decode cL_law 950 = .ok (.invokevirtual 135, 3) := by decide +kernel
theorem dL_law_953 : decode cL_law 953 = .ok (.aload_n 2, 1) := by decide +kernel
theorem dL_law_954 : decode cL_law 954 = .ok (.invokevirtual 138, 3) := by decide +kernel
theorem dL_law_957 : decode cL_law 957 = .ok (.if_icmp .eq 5, 3) := by decide +kernel
theorem dL_law_960 : decode cL_law 960 = .ok (.iconst 0, 1) := by decide +kernel
theorem dL_law_961 : decode cL_law 961 = .ok (.ireturn, 1) := by decide +kernel
theorem dL_law_962 : decode cL_law 962 = .ok (.iinc 3 5, 3) := by decide +kernel
theorem dL_law_965 : decode cL_law 965 = .ok (.goto (-947), 3) := by decide +kernel
theorem dL_law_968 : decode cL_law 968 = .ok (.iconst 1, 1) := by decide +kernel
theorem dL_law_969 : decode cL_law 969 = .ok (.ireturn, 1) := by decide +kernel
end
section
/-! ===== my own library: nest words, the two kinds of contract (read only: RO; one that writes: MU), their calls ===== -/
abbrev tyL (cyC cyI cyO : ClassId) : List (ClassId × FieldType) := [(cyC, .char), (cyI, .int), (cyO, .object "RoofOrdinances$City")]
def NK (U : State) : Prop := va_Nw (.methodLinkNest RX0 92 yX6_isIn RX6) U ∧ va_Nw (.methodLinkNest RX4 9 yX6_isWithin RX6) U ∧ va_Nw (.methodLinkNest RX4 29 yX6_isIn RX6) U ∧ va_Nw (.methodLinkNest RX3 19 yX6_isWithin RX6) U ∧ va_Nw (.methodLinkNest RX2 60 yX6_isOwner RX6) U ∧ va_Nw (.methodLinkNest RX2 76 yX6_isRoof RX6) U ∧ va_Nw (.methodLinkNest RX5 73 yX6_isIn RX6) U ∧ va_Nw (.methodLinkNest RX6 31 yX5_init RX6) U ∧ va_Nw (.methodLinkNest RX6 38 yX3_init RX6) U
theorem NK.warm {s U : State} (hW : s.WarmedH U.vm) (h : NK s) : NK U := by
  obtain ⟨h1, h2, h3, h4, h5, h6, h7, h8, h9⟩ := h
  exact ⟨h1.warmM hW, h2.warmM hW, h3.warmM hW, h4.warmM hW, h5.warmM hW, h6.warmM hW, h7.warmM hW, h8.warmM hW, h9.warmM hW⟩
theorem NK.same {u U : State} (hv : u.vm = U.vm) (h : NK u) : NK U := by
  obtain ⟨h1, h2, h3, h4, h5, h6, h7, h8, h9⟩ := h
  exact ⟨h1.same rfl hv, h2.same rfl hv, h3.same rfl hv, h4.same rfl hv, h5.same rfl hv, h6.same rfl hv, h7.same rfl hv, h8.same rfl hv, h9.same rfl hv⟩
def KK (D : va_G) (cyC cyI cyO : ClassId) (U : State) : Prop := va_K D vwCl (tyL cyC cyI cyO) U ∧ NK U
theorem KK.warm {D : va_G} {cyC cyI cyO : ClassId} {s U : State} (hW : s.WarmedH U.vm) (h : KK D cyC cyI cyO s) : KK D cyC cyI cyO U := ⟨va_K.moved hW.alike h.1, h.2.warm hW⟩
theorem KK.calling {D : va_G} {cyC cyI cyO : ClassId} {U : State} {g : JFrame} {mk : MethodId} {a : Array Value} (h : KK D cyC cyI cyO U) : KK D cyC cyI cyO (U.calling g mk a) := ⟨va_K.moved (u := U) (U := U.calling g mk a) (Vm.Alike.refl U.vm) h.1, h.2.same rfl⟩
/-- the start of a method: its world, the tables -/
abbrev RP (D : va_G) (cyC cyI cyO : ClassId) (WS : va_W) : State → Prop := fun U => va_P D vwCl WS U.heap ∧ KK D cyC cyI cyO U
abbrev MP (D : va_G) (cyC cyI cyO : ClassId) (WS : va_W) (sz : Nat) : State → Prop := fun U => U.heap.size = sz ∧ va_P D vwCl WS U.heap ∧ KK D cyC cyI cyO U ∧ va_D (fun _ => True) WS
/-- read only: the answer r, nothing changed -/
abbrev Ty (y : MethodName) (bytes : ByteArray) (maxL : Nat) (ret : Option FieldType) : List Cond := Cond.code y bytes maxL ret :: TB
abbrev BV (C : String) (y : MethodName) (bytes : ByteArray) (maxL : Nat) (ret : Option FieldType) (n : Nat) : Prop := Cond.code y bytes maxL ret ∈ TB ∧ Cond.instanceMethod y ∈ TB ∧ Cond.selects C y y ∈ TB ∧ Cond.initialized C ∈ TB ∧ (y.cls = C ∧ y.cls ≠ "java/lang/invoke/MethodHandle" ∧ y.cls ≠ "java/lang/invoke/VarHandle" ∧ (parseMethodDescriptor y.desc).map (fun d => d.parameters.length) = some n)
abbrev BS (y : MethodName) (bytes : ByteArray) (maxL : Nat) (ret : Option FieldType) (n : Nat) : Prop := Cond.code y bytes maxL ret ∈ TB ∧ Cond.static y ∈ TB ∧ Cond.initialized y.cls ∈ TB ∧ (y.cls ≠ "java/lang/invoke/MethodHandle" ∧ y.cls ≠ "java/lang/invoke/VarHandle" ∧ (parseMethodDescriptor y.desc).map (fun d => d.parameters.length) = some n)
theorem TyGood {y : MethodName} {bytes : ByteArray} {maxL : Nat} {ret : Option FieldType} (hc : Cond.code y bytes maxL ret ∈ TB) : GoodIn TB (Ty y bytes maxL ret) := fun w h => by
  rcases List.mem_cons.mp h with h | h
  · subst h
    exact ⟨hc, TB_good hc⟩
  · exact ⟨h, TB_good h⟩
theorem good4 {w1 w2 w3 w4 : Cond} {ws : List Cond} (h1 : w1 ∈ TB) (h2 : w2 ∈ TB) (h3 : w3 ∈ TB) (h4 : w4 ∈ TB) (h : GoodIn TB ws) : GoodIn TB ([w1, w2, w3, w4] ++ ws) := fun w hw => by
  rcases List.mem_append.mp hw with q | q
  · have q2 : w ∈ TB := by
      simp only [List.mem_cons, List.not_mem_nil, or_false] at q
      rcases q with q | q | q | q <;> subst q <;> assumption
    exact ⟨q2, TB_good q2⟩
  · exact h w q
theorem good3 {w1 w2 w3 : Cond} {ws : List Cond} (h1 : w1 ∈ TB) (h2 : w2 ∈ TB) (h3 : w3 ∈ TB) (h : GoodIn TB ws) : GoodIn TB ([w1, w2, w3] ++ ws) := fun w hw => by
  rcases List.mem_append.mp hw with q | q
  · have q2 : w ∈ TB := by
      simp only [List.mem_cons, List.not_mem_nil, or_false] at q
      rcases q with q | q | q <;> subst q <;> assumption
    exact ⟨q2, TB_good q2⟩
  · exact h w q
abbrev RO (l : Launch) (y : MethodName) (ws : List Cond) (rm : Room) (D : va_G) (cyC cyI cyO : ClassId) (WS : va_W) (av : List Value) (r : Int32) : Prop := Met l y ws rm (va_Pc av (RP D cyC cyI cyO WS)) (vp_Si (fun x => x = r)) 0 0 (fun _ => False)
/-- the end of a method that writes: its answer, its world behind it -/
def MQQ (ro : Option Value) (D : va_G) (WS' : va_W) (A : Nat → Prop) : Array Value → State → Outcome → State → Prop := fun _ st oc t => (oc = .returned ro ∧ va_P D vwCl WS' t.heap) ∧ va_F A st t
abbrev MU (l : Launch) (y : MethodName) (ws : List Cond) (rm : Room) (D : va_G) (cyC cyI cyO : ClassId) (WS : va_W) (av : List Value) (ro : Option Value) (WS' : va_W) : Prop := ∀ sz : Nat, Met l y ws rm (va_Pc av (MP D cyC cyI cyO WS sz)) (MQQ ro D WS' (va_A WS sz)) 0 0 (va_A WS sz)
theorem ro_blind {D : va_G} {cyC cyI cyO : ClassId} {WS : va_W} {av : List Value} : FrameBlind (va_Pc av (RP D cyC cyI cyO WS)) := fun a U g mk q => by
  obtain ⟨q0, qP, qK⟩ := q
  exact ⟨q0, qP, qK.calling⟩
theorem mu_blind {D : va_G} {cyC cyI cyO : ClassId} {WS : va_W} {av : List Value} {sz : Nat} : FrameBlind (va_Pc av (MP D cyC cyI cyO WS sz)) := fun a U g mk q => by
  obtain ⟨q0, q1, qP, qK, qD⟩ := q
  exact ⟨q0, q1, qP, qK.calling, qD⟩
/-- places of a world written anew -/
def putL : va_W → List Nat → va_W → va_W
  | ws, i :: is, x :: w1 => putL (ws.set i x) is w1
  | ws, _, _ => ws
theorem putL_get : ∀ (is : List Nat) (w1 ws : va_W) (k : Nat) (q : Nat × va_E), (putL ws is w1)[k]? = some q → is.length = w1.length → q ∈ w1 ∨ (ws[k]? = some q ∧ k ∉ is)
  | [], [], ws, k, q, h, _ => Or.inr ⟨h, List.not_mem_nil⟩
  | [], _ :: _, _, _, _, _, hl => by simp at hl
  | _ :: _, [], _, _, _, _, hl => by simp at hl
  | i :: is, x :: w1, ws, k, q, h, hl => by
    rcases putL_get is w1 (ws.set i x) k q h (by simpa using hl) with h1 | ⟨h1, h2⟩
    · exact Or.inl (List.mem_cons_of_mem _ h1)
    · by_cases hk : k = i
      · subst hk
        rw [List.getElem?_set] at h1
        simp only [if_true] at h1
        split at h1
        · cases h1
          exact Or.inl List.mem_cons_self
        · cases h1
      · rw [List.getElem?_set_ne (Ne.symm hk)] at h1
        exact Or.inr ⟨h1, fun z => (List.mem_cons.mp z).elim hk h2⟩
theorem va_D_fst {A : Nat → Prop} {ws ws' : va_W} (hD : va_D A ws) (h : ws'.map Prod.fst = ws.map Prod.fst) : va_D A ws' := by
  have key : ∀ (k : Nat) (q : Nat × va_E), ws'[k]? = some q → ∃ q0, ws[k]? = some q0 ∧ q0.1 = q.1 := by
    intro k q hk
    have h1 : (ws'.map Prod.fst)[k]? = some q.1 := by rw [List.getElem?_map, hk]; rfl
    rw [h, List.getElem?_map] at h1
    cases hw : ws[k]? with
    | none => rw [hw] at h1; cases h1
    | some q0 => rw [hw] at h1; exact ⟨q0, rfl, Option.some.inj h1⟩
  refine ⟨fun i j p q hi hj hpq => ?_, fun k q hk => ?_⟩
  · obtain ⟨p0, a1, a2⟩ := key i p hi
    obtain ⟨q0, b1, b2⟩ := key j q hj
    exact hD.1 i j p0 q0 a1 b1 (by rw [a2, b2, hpq])
  · obtain ⟨q0, a1, a2⟩ := key k q hk
    rw [← a2]
    exact hD.2 k q0 a1
/-- behind a call that wrote: the world with the callee's places written anew -/
theorem jn {D : va_G} {ws WS WS' ws' : va_W} {A : Nat → Prop} {H H1 : Heap} (is : List Nat) (hC : is.map (fun i => ws[i]?) = WS.map some) (hf : WS'.map Prod.fst = WS.map Prod.fst) (hW : putL ws is WS' = ws') (hP : va_P D vwCl ws H) (hD : va_D A ws) (hP1 : va_P D vwCl WS' H1) (hF : ∀ q : Nat, q < H.size → ¬ va_A WS H.size q → H1[q]? = H[q]?) : va_P D vwCl ws' H1 := by
  subst hW
  have hl : is.length = WS'.length := by
    have h1 := congrArg List.length hC
    have h2 := congrArg List.length hf
    simp only [List.length_map] at h1 h2
    omega
  have at' : ∀ (k : Nat) (q : Nat × va_E), WS[k]? = some q → ∃ i, is[k]? = some i ∧ ws[i]? = some q := by
    intro k q hq
    have h1 : (is.map (fun i => ws[i]?))[k]? = some (some q) := by rw [hC, List.getElem?_map, hq]; rfl
    rw [List.getElem?_map] at h1
    cases hi : is[k]? with
    | none => rw [hi] at h1; cases h1
    | some i => rw [hi] at h1; exact ⟨i, rfl, Option.some.inj h1⟩
  intro k q hk
  rcases putL_get is WS' ws k q hk hl with h | ⟨h1, h2⟩
  · obtain ⟨i, hi⟩ := List.getElem?_of_mem h
    exact hP1 i q hi
  · have hlt := (hP k q h1).lt
    refine (hP k q h1).kept (hF q.1 hlt (fun z => ?_))
    rcases z with ⟨k2, e, z⟩ | z
    · obtain ⟨j, h3, h4⟩ := at' k2 (q.1, e) z
      have hij := hD.1 k j q (q.1, e) h1 h4 rfl
      subst hij
      exact h2 (List.mem_of_getElem? h3)
    · omega
theorem sub_of_map {ws WS : va_W} (is : List Nat) (hC : is.map (fun i => ws[i]?) = WS.map some) : is.filterMap (fun i => ws[i]?) = WS := by
  have : ∀ (is : List Nat) (WS : va_W), is.map (fun i => ws[i]?) = WS.map some → is.filterMap (fun i => ws[i]?) = WS := by
    intro is
    induction is with
    | nil => intro WS h; cases WS with
      | nil => rfl
      | cons a b => simp at h
    | cons i is ih => intro WS h; cases WS with
      | nil => simp at h
      | cons a b =>
        simp only [List.map_cons, List.cons.injEq] at h
        rw [List.filterMap_cons, h.1, ih b h.2]
  exact this is WS hC
section QC
variable {p : Program} {l : Launch} {e : Env} {R : Room} {s : State} {m : MethodId} {args : Array Value} {below : List Frame} {meth : Method} {c : Code} {H : Heap} {locs : List Loc} {cells slots : Nat} {Q : State → Prop}
variable {pc : Nat} {ls : Array Slot} {rest st0 : List Value} {a : Array Value}
theorem ro_end {r : Int32} (hr : va_Run p l e R s m args below meth c H locs cells slots 0 0 (F0 m pc ls st0) rest (vp_Si (fun x => x = r) a) (fun _ => False))
    (kk : W p l e R s m args below meth c H locs cells slots Q (F0 m (pc + 3) ls (.int r :: rest))) : W p l e R s m args below meth c H locs cells slots Q (F0 m pc ls st0) := by
  intro T hT X
  obtain ⟨v, st₀, t, T', L, h0, X', hL, e1, e2, ⟨r', hv, hp, hh⟩, st⟩ := hr T hT X
  cases hv
  subst hp
  obtain ⟨t2, a1, b1⟩ := kk T' (by rw [e1, hh, h0]) (Stand.forget X' (fun q h => (hL q h).elim))
  exact ⟨t2, st t2 a1, b1⟩
theorem mu_end {ro : Option Value} {D : va_G} {ws WS WS' ws' : va_W} {A : Nat → Prop} {H0 : Heap} (hr : va_Run p l e R s m args below meth c H locs cells slots 0 0 (F0 m pc ls st0) rest (MQQ ro D WS' (va_A WS H.size) a) (va_A WS H.size))
    (is : List Nat) (hC : is.map (fun i => ws[i]?) = WS.map some) (hf : WS'.map Prod.fst = WS.map Prod.fst) (hW : putL ws is WS' = ws') (hf2 : ws'.map Prod.fst = ws.map Prod.fst) (hP : va_P D vwCl ws H) (hD : va_D A ws) (hS : va_S A H0 H locs) (hA : ∀ q, H0.size ≤ q → A q)
    (kk : ∀ (H1 : Heap) (locs1 : List Loc), va_P D vwCl ws' H1 → va_D A ws' → va_S A H0 H1 locs1 → W p l e R s m args below meth c H1 locs1 cells slots Q (F0 m (pc + 3) ls (ro.toList ++ rest))) : W p l e R s m args below meth c H locs cells slots Q (F0 m pc ls st0) := by
  have hfree : ∀ q, va_A WS H.size q → A q := va_free hD hS hA is hC
  intro T hT X
  obtain ⟨v, st₀, t, T', L, h0, X', hL, e1, e2, ⟨⟨hv, hp⟩, hz, hk⟩, st⟩ := hr T hT X
  cases hv
  rw [h0] at hz hk
  rw [← e1] at hp hz hk
  obtain ⟨t2, a1, b1⟩ := kk T'.heap (locs ++ L) (jn is hC hf hW hP hD hp hk) (va_D_fst hD hf2)
    ⟨Nat.le_trans hS.1 hz, fun q h1 h2 => by rw [hk q (Nat.lt_of_lt_of_le h1 hS.1) (fun z => h2 (hfree q z))]; exact hS.2.1 q h1 h2, fun q hq => by
      rcases List.mem_append.mp hq with h | h
      · exact hS.2.2 q h
      · exact hfree _ (hL q h)⟩ T' rfl X'
  exact ⟨t2, st t2 a1, b1⟩
end QC
section QR
variable {p : Program} {l : Launch} {e : Env} {R : Room} {s : State} {m : MethodId} {args : Array Value} {below : List Frame} {meth : Method} {c : Code} {H : Heap} {locs : List Loc} {cells slots : Nat} {Q : State → Prop}
variable {pc : Nat} {ls : Array Slot} {rest st0 : List Value} {y : MethodName} {cc bytes : ByteArray} {maxL nL n index : Nat} {ret : Option FieldType} {rm : Room} {own C : String} {b : Addr} {As : List Value} {D : va_G} {cyC cyI cyO : ClassId} {ws WS WS' ws' : va_W} {r : Int32} {ro : Option Value} {A : Nat → Prop} {H0 : Heap}
/-- a call of a static method that reads only -/
theorem rS (hx : p.tables.exec = Jvm.exec) (hb : c.code = cc) (hml : c.maxLocals = nL) (hown : s.vm.findClass own = some m.cls) (hts : ∀ w ∈ TB, w.before args s = true) (hls : ls.size = nL)
    (hM : RO l y (Ty y bytes maxL ret) rm D cyC cyI cyO WS As r) (hB : BS y bytes maxL ret n) (hlk : Cond.methodLink own index y ∈ TB) (hrc : rm.cells = 0 ∧ rm.slots = 0)
    (hR : rm.frames + 1 ≤ R.frames ∧ 8 + (maxL + 11) + rm.locals ≤ R.locals ∧ cells ≤ R.cells ∧ slots ≤ R.slots)
    (is : List Nat) (hC : is.map (fun i => ws[i]?) = WS.map some) (hP : va_P D vwCl ws H) (hK : KK D cyC cyI cyO s) (hn : As.length = n) (hst : st0 = As.reverse ++ rest) (hroom : (rest.map fun v => v.category).sum ≤ 8) (hdg : decode cc pc = .ok (.invokestatic index, 3))
    (kk : W p l e R s m args below meth c H locs cells slots Q (F0 m (pc + 3) ls (.int r :: rest))) : W p l e R s m args below meth c H locs cells slots Q (F0 m pc ls st0) :=
  ro_end (va_runS (As := As) (rest := rest) ⟨hx, hb, hml, hown, hts⟩ hM (va_cwS n hts (good3 hlk hB.2.1 hB.2.2.1 (TyGood hB.1)) rfl hrc.1 hrc.2 hB.2.2.2 ⟨hR.1, hR.2.1⟩) ⟨ro_blind, fun U hU hW => ⟨rfl, by rw [hU]; exact hP.sub is (sub_of_map is hC), hK.warm hW⟩⟩ rfl hn hls hst (lv_room hroom) hdg hR.2.2) kk
/-- .. of a virtual or private one -/
theorem rV (hx : p.tables.exec = Jvm.exec) (hb : c.code = cc) (hml : c.maxLocals = nL) (hown : s.vm.findClass own = some m.cls) (hts : ∀ w ∈ TB, w.before args s = true) (hls : ls.size = nL)
    (hM : RO l y (Ty y bytes maxL ret) rm D cyC cyI cyO WS (.ref b :: As) r) (hB : BV C y bytes maxL ret n) (hlk : Cond.methodLink own index y ∈ TB) (hrc : rm.cells = 0 ∧ rm.slots = 0)
    (hR : rm.frames + 1 ≤ R.frames ∧ 8 + (maxL + 11) + rm.locals ≤ R.locals ∧ cells ≤ R.cells ∧ slots ≤ R.slots)
    (is : List Nat) (hC : is.map (fun i => ws[i]?) = WS.map some) (hP : va_P D vwCl ws H) (hK : KK D cyC cyI cyO s) (q0 : Nat) {ci : Nat} {fs : List Value} {q : vw_C} (he : ws[q0]? = some (b, .inr (ci, fs))) (hc : vwCl[ci]? = some q) (hqC : q.1 = C) (hn : As.length = n) (hst : st0 = As.reverse ++ .ref b :: rest) (hroom : (rest.map fun v => v.category).sum ≤ 8) (hdg : decode cc pc = .ok (.invokevirtual index, 3))
    (kk : W p l e R s m args below meth c H locs cells slots Q (F0 m (pc + 3) ls (.int r :: rest))) : W p l e R s m args below meth c H locs cells slots Q (F0 m pc ls st0) := by
  subst hqC
  exact ro_end (va_runV (C := q.1) (As := As) (rest := rest) ⟨hx, hb, hml, hown, hts⟩ hM (cwV n hts (good4 hlk hB.2.1 hB.2.2.1 hB.2.2.2.1 (TyGood hB.1)) rfl hrc.1 hrc.2 hB.2.2.2.2 ⟨hR.1, hR.2.1⟩) ⟨ro_blind, va_recv hK.1 hP hc he, fun U hU hW => ⟨rfl, by rw [hU]; exact hP.sub is (sub_of_map is hC), hK.warm hW⟩⟩ rfl hn hls hst (lv_room hroom) hdg hR.2.2) kk
/-- .. of a nest mate's private static one -/
theorem rN {host : String} (hx : p.tables.exec = Jvm.exec) (hb : c.code = cc) (hml : c.maxLocals = nL) (hown : s.vm.findClass own = some m.cls) (hts : ∀ w ∈ TB, w.before args s = true) (hls : ls.size = nL)
    (hM : RO l y (Ty y bytes maxL ret) rm D cyC cyI cyO WS As r) (hB : BS y bytes maxL ret n) (hl : va_Nw (.methodLinkNest own index y host) s) (hrc : rm.cells = 0 ∧ rm.slots = 0)
    (hR : rm.frames + 1 ≤ R.frames ∧ 8 + (maxL + 11) + rm.locals ≤ R.locals ∧ cells ≤ R.cells ∧ slots ≤ R.slots)
    (is : List Nat) (hC : is.map (fun i => ws[i]?) = WS.map some) (hP : va_P D vwCl ws H) (hK : KK D cyC cyI cyO s) (hn : As.length = n) (hst : st0 = As.reverse ++ rest) (hroom : (rest.map fun v => v.category).sum ≤ 8) (hdg : decode cc pc = .ok (.invokestatic index, 3))
    (kk : W p l e R s m args below meth c H locs cells slots Q (F0 m (pc + 3) ls (.int r :: rest))) : W p l e R s m args below meth c H locs cells slots Q (F0 m pc ls st0) :=
  ro_end (va_runSN (As := As) (rest := rest) ⟨hx, hb, hml, hown, hts⟩ hM ⟨va_cnB n hts (TyGood hB.1) rfl hrc.1 hrc.2 hl (hts _ hB.2.2.1) hB.2.2.2 ⟨hR.1, hR.2.1⟩, hts _ hB.2.1, trivial⟩ ⟨ro_blind, fun U hU hW => ⟨rfl, by rw [hU]; exact hP.sub is (sub_of_map is hC), hK.warm hW⟩⟩ rfl hn hls hst (lv_room hroom) hdg hR.2.2) kk
/-- a call of a virtual or private method that writes -/
theorem mV (hx : p.tables.exec = Jvm.exec) (hb : c.code = cc) (hml : c.maxLocals = nL) (hown : s.vm.findClass own = some m.cls) (hts : ∀ w ∈ TB, w.before args s = true) (hls : ls.size = nL)
    (hM : MU l y (Ty y bytes maxL ret) rm D cyC cyI cyO WS (.ref b :: As) ro WS') (hB : BV C y bytes maxL ret n) (hlk : Cond.methodLink own index y ∈ TB) (hrc : rm.cells = 0 ∧ rm.slots = 0)
    (hR : rm.frames + 1 ≤ R.frames ∧ 8 + (maxL + 11) + rm.locals ≤ R.locals ∧ cells ≤ R.cells ∧ slots ≤ R.slots)
    (is : List Nat) (hnd : va_nd is = true) (hC : is.map (fun i => ws[i]?) = WS.map some) (hf : WS'.map Prod.fst = WS.map Prod.fst) (hW : putL ws is WS' = ws') (hf2 : ws'.map Prod.fst = ws.map Prod.fst) (hP : va_P D vwCl ws H) (hD : va_D A ws) (hS : va_S A H0 H locs) (hA : ∀ q, H0.size ≤ q → A q) (hK : KK D cyC cyI cyO s) (q0 : Nat) {ci : Nat} {fs : List Value} {q : vw_C} (he : ws[q0]? = some (b, .inr (ci, fs))) (hc : vwCl[ci]? = some q) (hqC : q.1 = C) (hn : As.length = n) (hst : st0 = As.reverse ++ .ref b :: rest) (hroom : (rest.map fun v => v.category).sum ≤ 8) (hdg : decode cc pc = .ok (.invokevirtual index, 3))
    (kk : ∀ (H1 : Heap) (locs1 : List Loc), va_P D vwCl ws' H1 → va_D A ws' → va_S A H0 H1 locs1 → W p l e R s m args below meth c H1 locs1 cells slots Q (F0 m (pc + 3) ls (ro.toList ++ rest))) : W p l e R s m args below meth c H locs cells slots Q (F0 m pc ls st0) := by
  subst hqC
  exact mu_end (va_runV (C := q.1) (As := As) (rest := rest) ⟨hx, hb, hml, hown, hts⟩ (hM H.size) (cwV n hts (good4 hlk hB.2.1 hB.2.2.1 hB.2.2.2.1 (TyGood hB.1)) rfl hrc.1 hrc.2 hB.2.2.2.2 ⟨hR.1, hR.2.1⟩) ⟨mu_blind, va_recv hK.1 hP hc he, fun U hU hW => ⟨rfl, by rw [hU], by rw [hU]; exact hP.sub is (sub_of_map is hC), hK.warm hW, (hD.sub is hnd hC).weaken (fun _ _ _ _ => trivial)⟩⟩ rfl hn hls hst (lv_room hroom) hdg hR.2.2) is hC hf hW hf2 hP hD hS hA kk
/-- .. of a static one that writes -/
theorem mS (hx : p.tables.exec = Jvm.exec) (hb : c.code = cc) (hml : c.maxLocals = nL) (hown : s.vm.findClass own = some m.cls) (hts : ∀ w ∈ TB, w.before args s = true) (hls : ls.size = nL)
    (hM : MU l y (Ty y bytes maxL ret) rm D cyC cyI cyO WS As ro WS') (hB : BS y bytes maxL ret n) (hlk : Cond.methodLink own index y ∈ TB) (hrc : rm.cells = 0 ∧ rm.slots = 0)
    (hR : rm.frames + 1 ≤ R.frames ∧ 8 + (maxL + 11) + rm.locals ≤ R.locals ∧ cells ≤ R.cells ∧ slots ≤ R.slots)
    (is : List Nat) (hnd : va_nd is = true) (hC : is.map (fun i => ws[i]?) = WS.map some) (hf : WS'.map Prod.fst = WS.map Prod.fst) (hW : putL ws is WS' = ws') (hf2 : ws'.map Prod.fst = ws.map Prod.fst) (hP : va_P D vwCl ws H) (hD : va_D A ws) (hS : va_S A H0 H locs) (hA : ∀ q, H0.size ≤ q → A q) (hK : KK D cyC cyI cyO s) (hn : As.length = n) (hst : st0 = As.reverse ++ rest) (hroom : (rest.map fun v => v.category).sum ≤ 8) (hdg : decode cc pc = .ok (.invokestatic index, 3))
    (kk : ∀ (H1 : Heap) (locs1 : List Loc), va_P D vwCl ws' H1 → va_D A ws' → va_S A H0 H1 locs1 → W p l e R s m args below meth c H1 locs1 cells slots Q (F0 m (pc + 3) ls (ro.toList ++ rest))) : W p l e R s m args below meth c H locs cells slots Q (F0 m pc ls st0) :=
  mu_end (va_runS (As := As) (rest := rest) ⟨hx, hb, hml, hown, hts⟩ (hM H.size) (va_cwS n hts (good3 hlk hB.2.1 hB.2.2.1 (TyGood hB.1)) rfl hrc.1 hrc.2 hB.2.2.2 ⟨hR.1, hR.2.1⟩) ⟨mu_blind, fun U hU hW => ⟨rfl, by rw [hU], by rw [hU]; exact hP.sub is (sub_of_map is hC), hK.warm hW, (hD.sub is hnd hC).weaken (fun _ _ _ _ => trivial)⟩⟩ rfl hn hls hst (lv_room hroom) hdg hR.2.2) is hC hf hW hf2 hP hD hS hA kk
end QR
/-- a loop counted up: what n turns make of x -/
def fo {α : Type} (f : Nat → α → α) (x : α) : Nat → α
  | 0 => x
  | n + 1 => f n (fo f x n)
theorem fo_s {α : Type} (f : Nat → α → α) (x : α) (n : Nat) : fo f x (n + 1) = f n (fo f x n) := rfl
theorem nle_of {C : Int32} {N i : Nat} (hC : C = nI N) (h : i < N) (hN : N < 2 ^ 31) : ¬ C ≤ nI i := by rw [hC]; exact nI_ge h hN
theorem le_of {C : Int32} {N : Nat} (hC : C = nI N) : C ≤ nI N := by rw [hC]; exact Int32.le_refl _
end
section
abbrev wC (cyI : ClassId) (A : Nat → Nat) (u : (Nat → Nat → Int32)) (w : (Nat → Int32)) : va_W := [(A 0, .inr (0, [.ref (A 1), .ref (A 2), .ref (A 3), .ref (A 4), .ref (A 5), .ref (A 6), .ref (A 7), .ref (A 8), .int (w 8), .int (w 9), .int (w 10), .int (w 11), .int (w 12), .int (w 13), .int (w 14), .int (w 15), .int (w 16), .int (w 17), .int (w 18)])), (A 1, .inl (cyI, 28, .inl (u 0))), (A 2, .inl (cyI, 28, .inl (u 1))), (A 3, .inl (cyI, 28, .inl (u 2))), (A 4, .inl (cyI, 28, .inl (u 3))), (A 5, .inl (cyI, 4, .inl (u 4))), (A 6, .inl (cyI, 4, .inl (u 5))), (A 7, .inl (cyI, 4, .inl (u 6))), (A 8, .inl (cyI, 4, .inl (u 7)))]
abbrev wM (cyI : ClassId) (A : Nat → Nat) (u : (Nat → Nat → Int32)) (w : (Nat → Int32)) : va_W := [(A 0, .inr (6, [.ref (A 1), .ref (A 2), .ref (A 3), .int (w 3), .ref (A 4), .int (w 5), .ref (A 5), .int (w 7), .int (w 8), .int (w 9), .int (w 10), .int (w 11), .int (w 12), .int (w 13), .ref (A 6)])), (A 1, .inl (cyI, 142, .inl (u 0))), (A 2, .inl (cyI, 142, .inl (u 1))), (A 3, .inl (cyI, 568, .inl (u 2))), (A 4, .inl (cyI, 142, .inl (u 3))), (A 5, .inl (cyI, 60, .inl (u 4))), (A 6, .inl (cyI, 3, .inl (u 5)))]
abbrev wPd (cyC : ClassId) (A : Nat → Nat) (u : (Nat → Nat → Int32)) (w : (Nat → Int32)) : va_W := [(A 0, .inr (3, [.ref (A 1), .int (w 1)])), (A 1, .inl (cyC, 60, .inl (u 0)))]
abbrev wRd (A : Nat → Nat) (w : (Nat → Int32)) : va_W := [(A 0, .inr (2, [.ref (A 1), .int (w 1), .int (w 2), .int (w 3), .int (w 4), .int (w 5)]))]
abbrev wWy (cyI : ClassId) (A : Nat → Nat) (u : (Nat → Nat → Int32)) : va_W := [(A 0, .inr (4, [.ref (A 1), .ref (A 2)])), (A 1, .inl (cyI, 16, .inl (u 0))), (A 2, .inl (cyI, 16, .inl (u 1)))]
abbrev wRt (A : Nat → Nat) (w : (Nat → Int32)) : va_W := [(A 0, .inr (5, [.ref (A 1), .ref (A 2), .ref (A 3), .int (w 3), .ref (A 4), .ref (A 5), .ref (A 6), .ref (A 7), .int (w 8), .int (w 9), .int (w 10), .int (w 11)]))]
theorem vp_lit {x : Int32} {n : Nat} (h : ¬ (x < 0 ∨ n ≤ x.toNatClampNeg)) : vp_in x n := h
theorem nz {x : Int32} (h : x = 0 ∨ x = 1) : narrow .boolean (.int x) = .int x := by rcases h with rfl | rfl <;> rfl

def pX6_isWithin (a1 : Int32) (a2 : Int32) (a3 : Int32) : Int32 := (if a1 < a2 then 0 else (if a3 < a1 then 0 else 1))
set_option maxHeartbeats 4000000 in
set_option maxRecDepth 100000 in
theorem kX6_isWithin (l : Launch) (D : va_G) (cyC cyI cyO : ClassId) (a1 : Int32) (a2 : Int32) (a3 : Int32) : RO l yX6_isWithin (Ty yX6_isWithin cX6_isWithin 3 (some .boolean)) ({ frames := 0, cells := 0, slots := 0, locals := 0 } : Room) D cyC cyI cyO [] [.int a1, .int a2, .int a3] (pX6_isWithin a1 a2 a3) := by
  refine Met.ofW (cc := cX6_isWithin) (maxL := 3) (ret := (some .boolean)) (by decide) rfl ?_
  intro p e s m args below meth cd s₁ B hml hv
  obtain ⟨rfl, hP, hK⟩ := hv
  have hx := B.exec
  have hb := B.bytes
  have hr := B.returns
  have hts : ∀ w ∈ TB, w.before ([.int a1, .int a2, .int a3] : List Value).toArray s = true := fun w h => atoms_spec (ws := (Ty yX6_isWithin cX6_isWithin 3 (some .boolean))) B.pre w (List.mem_cons_of_mem _ h)
  have hown : s.vm.findClass RX6 = some m.cls := findClass_of_methodNamed B.named
  have hlocks := B.notSynchronized
  have hl := lv_entry ([.int a1, .int a2, .int a3]) (n := 3) (Nat.le_of_ble_eq_true rfl)
  rw [lg_entry_eq]
  generalize (lg_sl ([.int a1, .int a2, .int a3]) ++ List.replicate (3 - (lg_sl ([.int a1, .int a2, .int a3])).length) Slot.unset).toArray = ls at hl ⊢
  have hl : lv_has ls 3 [(0, .int a1), (1, .int a2), (2, .int a3)] := hl
  refine lv_iload_n hx hb dX6_isWithin_0 rfl (lv_at hl 0 rfl) ?_
  refine lv_iload_n hx hb dX6_isWithin_1 rfl (lv_at hl 1 rfl) ?_
  refine lv_icmp_lt (tgt := 14) hx hb dX6_isWithin_2 (by decide) (fun c_1 => ?_) (fun c_1 => ?_)
  · refine lv_iconst (v := 0) hx hb dX6_isWithin_14 (by decide) ?_
    have e9 : 0 = (pX6_isWithin a1 a2 a3) := by simp only [pX6_isWithin, if_pos c_1]
    exact W.zret (ty := .boolean) (v := 0) hx hb hr (by rfl) (fun t ht hW => ⟨_, rfl, e9, ht⟩) (fun _ h => absurd h List.not_mem_nil) dX6_isWithin_15
  · refine lv_iload_n hx hb dX6_isWithin_5 rfl (lv_at hl 0 rfl) ?_
    refine lv_iload_n hx hb dX6_isWithin_6 rfl (lv_at hl 2 rfl) ?_
    refine lv_icmp_gt (tgt := 14) hx hb dX6_isWithin_7 (by decide) (fun c_2 => ?_) (fun c_2 => ?_)
    · refine lv_iconst (v := 0) hx hb dX6_isWithin_14 (by decide) ?_
      have e9 : 0 = (pX6_isWithin a1 a2 a3) := by simp only [pX6_isWithin, if_neg c_1, if_pos c_2]
      exact W.zret (ty := .boolean) (v := 0) hx hb hr (by rfl) (fun t ht hW => ⟨_, rfl, e9, ht⟩) (fun _ h => absurd h List.not_mem_nil) dX6_isWithin_15
    · refine lv_iconst (v := 1) hx hb dX6_isWithin_10 (by decide) ?_
      refine lv_goto (tgt := 15) hx hb dX6_isWithin_11 (by decide) ?_
      have e9 : 1 = (pX6_isWithin a1 a2 a3) := by simp only [pX6_isWithin, if_neg c_1, if_neg c_2]
      exact W.zret (ty := .boolean) (v := 1) hx hb hr (by rfl) (fun t ht hW => ⟨_, rfl, e9, ht⟩) (fun _ h => absurd h List.not_mem_nil) dX6_isWithin_15
theorem z_X6_isWithin (a1 : Int32) (a2 : Int32) (a3 : Int32) : (pX6_isWithin a1 a2 a3) = 0 ∨ (pX6_isWithin a1 a2 a3) = 1 := by
  unfold pX6_isWithin
  (repeat' split) <;> first | exact Or.inl rfl | exact Or.inr rfl
theorem bS_X6_isWithin : BS yX6_isWithin cX6_isWithin 3 (some .boolean) 3 := ⟨wcd_X6_isWithin, wst_X6_isWithin, win_RX6, by decide +kernel⟩
def pX6_isRoof (a1 : Int32) : Int32 := (pX6_isWithin a1 0 15)
set_option maxHeartbeats 4000000 in
set_option maxRecDepth 100000 in
theorem kX6_isRoof (l : Launch) (D : va_G) (cyC cyI cyO : ClassId) (a1 : Int32) : RO l yX6_isRoof (Ty yX6_isRoof cX6_isRoof 1 (some .boolean)) ({ frames := 1, cells := 0, slots := 0, locals := 22 } : Room) D cyC cyI cyO [] [.int a1] (pX6_isRoof a1) := by
  refine Met.ofW (cc := cX6_isRoof) (maxL := 1) (ret := (some .boolean)) (by decide) rfl ?_
  intro p e s m args below meth cd s₁ B hml hv
  obtain ⟨rfl, hP, hK⟩ := hv
  have hx := B.exec
  have hb := B.bytes
  have hr := B.returns
  have hts : ∀ w ∈ TB, w.before ([.int a1] : List Value).toArray s = true := fun w h => atoms_spec (ws := (Ty yX6_isRoof cX6_isRoof 1 (some .boolean))) B.pre w (List.mem_cons_of_mem _ h)
  have hown : s.vm.findClass RX6 = some m.cls := findClass_of_methodNamed B.named
  have hlocks := B.notSynchronized
  have hl := lv_entry ([.int a1]) (n := 1) (Nat.le_of_ble_eq_true rfl)
  rw [lg_entry_eq]
  generalize (lg_sl ([.int a1]) ++ List.replicate (1 - (lg_sl ([.int a1])).length) Slot.unset).toArray = ls at hl ⊢
  have hl : lv_has ls 1 [(0, .int a1)] := hl
  refine lv_iload_n hx hb dX6_isRoof_0 rfl (lv_at hl 0 rfl) ?_
  refine lv_iconst (v := 0) hx hb dX6_isRoof_1 (by decide) ?_
  refine lv_bipush (v := 15) hx hb dX6_isRoof_2 (by decide) ?_
  refine rS (As := [.int a1, .int 0, .int 15]) (rest := []) hx hb hml hown hts hl.1 (kX6_isWithin l D cyC cyI cyO a1 0 15) bS_X6_isWithin  wml_RX6_58 ⟨rfl, rfl⟩ ⟨Nat.le_of_ble_eq_true rfl, Nat.le_of_ble_eq_true rfl, Nat.zero_le _, Nat.zero_le _⟩ [] rfl hP hK rfl rfl (Nat.le_of_ble_eq_true rfl) dX6_isRoof_4 ?_
  have e9 : (pX6_isWithin a1 0 15) = (pX6_isRoof a1) := rfl
  exact W.zret (ty := .boolean) (v := (pX6_isWithin a1 0 15)) hx hb hr (nz (z_X6_isWithin a1 0 15)) (fun t ht hW => ⟨_, rfl, e9, ht⟩) (fun _ h => absurd h List.not_mem_nil) dX6_isRoof_7
theorem z_X6_isRoof (a1 : Int32) : (pX6_isRoof a1) = 0 ∨ (pX6_isRoof a1) = 1 := by
  unfold pX6_isRoof
  (repeat' split) <;> first | exact Or.inl rfl | exact Or.inr rfl | exact z_X6_isWithin _ _ _
theorem bS_X6_isRoof : BS yX6_isRoof cX6_isRoof 1 (some .boolean) 1 := ⟨wcd_X6_isRoof, wst_X6_isRoof, win_RX6, by decide +kernel⟩
def pX6_isOwner (a1 : Int32) : Int32 := (pX6_isWithin a1 0 3)
set_option maxHeartbeats 4000000 in
set_option maxRecDepth 100000 in
theorem kX6_isOwner (l : Launch) (D : va_G) (cyC cyI cyO : ClassId) (a1 : Int32) : RO l yX6_isOwner (Ty yX6_isOwner cX6_isOwner 1 (some .boolean)) ({ frames := 1, cells := 0, slots := 0, locals := 22 } : Room) D cyC cyI cyO [] [.int a1] (pX6_isOwner a1) := by
  refine Met.ofW (cc := cX6_isOwner) (maxL := 1) (ret := (some .boolean)) (by decide) rfl ?_
  intro p e s m args below meth cd s₁ B hml hv
  obtain ⟨rfl, hP, hK⟩ := hv
  have hx := B.exec
  have hb := B.bytes
  have hr := B.returns
  have hts : ∀ w ∈ TB, w.before ([.int a1] : List Value).toArray s = true := fun w h => atoms_spec (ws := (Ty yX6_isOwner cX6_isOwner 1 (some .boolean))) B.pre w (List.mem_cons_of_mem _ h)
  have hown : s.vm.findClass RX6 = some m.cls := findClass_of_methodNamed B.named
  have hlocks := B.notSynchronized
  have hl := lv_entry ([.int a1]) (n := 1) (Nat.le_of_ble_eq_true rfl)
  rw [lg_entry_eq]
  generalize (lg_sl ([.int a1]) ++ List.replicate (1 - (lg_sl ([.int a1])).length) Slot.unset).toArray = ls at hl ⊢
  have hl : lv_has ls 1 [(0, .int a1)] := hl
  refine lv_iload_n hx hb dX6_isOwner_0 rfl (lv_at hl 0 rfl) ?_
  refine lv_iconst (v := 0) hx hb dX6_isOwner_1 (by decide) ?_
  refine lv_iconst (v := 3) hx hb dX6_isOwner_2 (by decide) ?_
  refine rS (As := [.int a1, .int 0, .int 3]) (rest := []) hx hb hml hown hts hl.1 (kX6_isWithin l D cyC cyI cyO a1 0 3) bS_X6_isWithin  wml_RX6_58 ⟨rfl, rfl⟩ ⟨Nat.le_of_ble_eq_true rfl, Nat.le_of_ble_eq_true rfl, Nat.zero_le _, Nat.zero_le _⟩ [] rfl hP hK rfl rfl (Nat.le_of_ble_eq_true rfl) dX6_isOwner_3 ?_
  have e9 : (pX6_isWithin a1 0 3) = (pX6_isOwner a1) := rfl
  exact W.zret (ty := .boolean) (v := (pX6_isWithin a1 0 3)) hx hb hr (nz (z_X6_isWithin a1 0 3)) (fun t ht hW => ⟨_, rfl, e9, ht⟩) (fun _ h => absurd h List.not_mem_nil) dX6_isOwner_6
theorem z_X6_isOwner (a1 : Int32) : (pX6_isOwner a1) = 0 ∨ (pX6_isOwner a1) = 1 := by
  unfold pX6_isOwner
  (repeat' split) <;> first | exact Or.inl rfl | exact Or.inr rfl | exact z_X6_isWithin _ _ _
theorem bS_X6_isOwner : BS yX6_isOwner cX6_isOwner 1 (some .boolean) 1 := ⟨wcd_X6_isOwner, wst_X6_isOwner, win_RX6, by decide +kernel⟩
def pX6_bitOf (a1 : Int32) (a2 : Int32) : Int32 := ((a1 >>> (a2 &&& 31)) &&& 1)
set_option maxHeartbeats 4000000 in
set_option maxRecDepth 100000 in
theorem kX6_bitOf (l : Launch) (D : va_G) (cyC cyI cyO : ClassId) (a1 : Int32) (a2 : Int32) : RO l yX6_bitOf (Ty yX6_bitOf cX6_bitOf 2 (some .int)) ({ frames := 0, cells := 0, slots := 0, locals := 0 } : Room) D cyC cyI cyO [] [.int a1, .int a2] (pX6_bitOf a1 a2) := by
  refine Met.ofW (cc := cX6_bitOf) (maxL := 2) (ret := (some .int)) (by decide) rfl ?_
  intro p e s m args below meth cd s₁ B hml hv
  obtain ⟨rfl, hP, hK⟩ := hv
  have hx := B.exec
  have hb := B.bytes
  have hr := B.returns
  have hts : ∀ w ∈ TB, w.before ([.int a1, .int a2] : List Value).toArray s = true := fun w h => atoms_spec (ws := (Ty yX6_bitOf cX6_bitOf 2 (some .int))) B.pre w (List.mem_cons_of_mem _ h)
  have hown : s.vm.findClass RX6 = some m.cls := findClass_of_methodNamed B.named
  have hlocks := B.notSynchronized
  have hl := lv_entry ([.int a1, .int a2]) (n := 2) (Nat.le_of_ble_eq_true rfl)
  rw [lg_entry_eq]
  generalize (lg_sl ([.int a1, .int a2]) ++ List.replicate (2 - (lg_sl ([.int a1, .int a2])).length) Slot.unset).toArray = ls at hl ⊢
  have hl : lv_has ls 2 [(0, .int a1), (1, .int a2)] := hl
  refine lv_iload_n hx hb dX6_bitOf_0 rfl (lv_at hl 0 rfl) ?_
  refine lv_iload_n hx hb dX6_bitOf_1 rfl (lv_at hl 1 rfl) ?_
  refine lv_ishr hx hb dX6_bitOf_2 ?_
  refine lv_iconst (v := 1) hx hb dX6_bitOf_3 (by decide) ?_
  refine lv_iand hx hb dX6_bitOf_4 ?_
  have e9 : ((a1 >>> (a2 &&& 31)) &&& 1) = (pX6_bitOf a1 a2) := rfl
  exact W.iret (v := ((a1 >>> (a2 &&& 31)) &&& 1)) hx hb hr (fun t ht hW => ⟨_, rfl, e9, ht⟩) (fun _ h => absurd h List.not_mem_nil) dX6_bitOf_5
theorem bS_X6_bitOf : BS yX6_bitOf cX6_bitOf 2 (some .int) 2 := ⟨wcd_X6_bitOf, wst_X6_bitOf, win_RX6, by decide +kernel⟩
def pX6_isIn (a1 : Int32) (a2 : Int32) : Int32 := (if ((a1 >>> (a2 &&& 31)) &&& 1) = 1 then 1 else 0)
set_option maxHeartbeats 4000000 in
set_option maxRecDepth 100000 in
theorem kX6_isIn (l : Launch) (D : va_G) (cyC cyI cyO : ClassId) (a1 : Int32) (a2 : Int32) : RO l yX6_isIn (Ty yX6_isIn cX6_isIn 2 (some .boolean)) ({ frames := 0, cells := 0, slots := 0, locals := 0 } : Room) D cyC cyI cyO [] [.int a1, .int a2] (pX6_isIn a1 a2) := by
  refine Met.ofW (cc := cX6_isIn) (maxL := 2) (ret := (some .boolean)) (by decide) rfl ?_
  intro p e s m args below meth cd s₁ B hml hv
  obtain ⟨rfl, hP, hK⟩ := hv
  have hx := B.exec
  have hb := B.bytes
  have hr := B.returns
  have hts : ∀ w ∈ TB, w.before ([.int a1, .int a2] : List Value).toArray s = true := fun w h => atoms_spec (ws := (Ty yX6_isIn cX6_isIn 2 (some .boolean))) B.pre w (List.mem_cons_of_mem _ h)
  have hown : s.vm.findClass RX6 = some m.cls := findClass_of_methodNamed B.named
  have hlocks := B.notSynchronized
  have hl := lv_entry ([.int a1, .int a2]) (n := 2) (Nat.le_of_ble_eq_true rfl)
  rw [lg_entry_eq]
  generalize (lg_sl ([.int a1, .int a2]) ++ List.replicate (2 - (lg_sl ([.int a1, .int a2])).length) Slot.unset).toArray = ls at hl ⊢
  have hl : lv_has ls 2 [(0, .int a1), (1, .int a2)] := hl
  refine lv_iload_n hx hb dX6_isIn_0 rfl (lv_at hl 0 rfl) ?_
  refine lv_iload_n hx hb dX6_isIn_1 rfl (lv_at hl 1 rfl) ?_
  refine lv_ishr hx hb dX6_isIn_2 ?_
  refine lv_iconst (v := 1) hx hb dX6_isIn_3 (by decide) ?_
  refine lv_iand hx hb dX6_isIn_4 ?_
  refine lv_iconst (v := 1) hx hb dX6_isIn_5 (by decide) ?_
  refine lv_icmp_ne (tgt := 13) hx hb dX6_isIn_6 (by decide) (fun c_1 => ?_) (fun c_1 => ?_)
  · refine lv_iconst (v := 0) hx hb dX6_isIn_13 (by decide) ?_
    have e9 : 0 = (pX6_isIn a1 a2) := by simp only [pX6_isIn, if_neg c_1]
    exact W.zret (ty := .boolean) (v := 0) hx hb hr (by rfl) (fun t ht hW => ⟨_, rfl, e9, ht⟩) (fun _ h => absurd h List.not_mem_nil) dX6_isIn_14
  · refine lv_iconst (v := 1) hx hb dX6_isIn_9 (by decide) ?_
    refine lv_goto (tgt := 14) hx hb dX6_isIn_10 (by decide) ?_
    have e9 : 1 = (pX6_isIn a1 a2) := by simp only [pX6_isIn, if_pos c_1]
    exact W.zret (ty := .boolean) (v := 1) hx hb hr (by rfl) (fun t ht hW => ⟨_, rfl, e9, ht⟩) (fun _ h => absurd h List.not_mem_nil) dX6_isIn_14
theorem z_X6_isIn (a1 : Int32) (a2 : Int32) : (pX6_isIn a1 a2) = 0 ∨ (pX6_isIn a1 a2) = 1 := by
  unfold pX6_isIn
  (repeat' split) <;> first | exact Or.inl rfl | exact Or.inr rfl
theorem bS_X6_isIn : BS yX6_isIn cX6_isIn 2 (some .boolean) 2 := ⟨wcd_X6_isIn, wst_X6_isIn, win_RX6, by decide +kernel⟩
def pX6_causeIn (a1 : Int32) : Int32 := (if a1 < 10 then a1 else 0)
set_option maxHeartbeats 4000000 in
set_option maxRecDepth 100000 in
theorem kX6_causeIn (l : Launch) (D : va_G) (cyC cyI cyO : ClassId) (a1 : Int32) : RO l yX6_causeIn (Ty yX6_causeIn cX6_causeIn 1 (some .int)) ({ frames := 0, cells := 0, slots := 0, locals := 0 } : Room) D cyC cyI cyO [] [.int a1] (pX6_causeIn a1) := by
  refine Met.ofW (cc := cX6_causeIn) (maxL := 1) (ret := (some .int)) (by decide) rfl ?_
  intro p e s m args below meth cd s₁ B hml hv
  obtain ⟨rfl, hP, hK⟩ := hv
  have hx := B.exec
  have hb := B.bytes
  have hr := B.returns
  have hts : ∀ w ∈ TB, w.before ([.int a1] : List Value).toArray s = true := fun w h => atoms_spec (ws := (Ty yX6_causeIn cX6_causeIn 1 (some .int))) B.pre w (List.mem_cons_of_mem _ h)
  have hown : s.vm.findClass RX6 = some m.cls := findClass_of_methodNamed B.named
  have hlocks := B.notSynchronized
  have hl := lv_entry ([.int a1]) (n := 1) (Nat.le_of_ble_eq_true rfl)
  rw [lg_entry_eq]
  generalize (lg_sl ([.int a1]) ++ List.replicate (1 - (lg_sl ([.int a1])).length) Slot.unset).toArray = ls at hl ⊢
  have hl : lv_has ls 1 [(0, .int a1)] := hl
  refine lv_iload_n hx hb dX6_causeIn_0 rfl (lv_at hl 0 rfl) ?_
  refine lv_bipush (v := 10) hx hb dX6_causeIn_1 (by decide) ?_
  refine lv_icmp_lt (tgt := 10) hx hb dX6_causeIn_3 (by decide) (fun c_1 => ?_) (fun c_1 => ?_)
  · refine lv_iload_n hx hb dX6_causeIn_10 rfl (lv_at hl 0 rfl) ?_
    have e9 : a1 = (pX6_causeIn a1) := by simp only [pX6_causeIn, if_pos c_1]
    exact W.iret (v := a1) hx hb hr (fun t ht hW => ⟨_, rfl, e9, ht⟩) (fun _ h => absurd h List.not_mem_nil) dX6_causeIn_11
  · refine lv_iconst (v := 0) hx hb dX6_causeIn_6 (by decide) ?_
    refine lv_goto (tgt := 11) hx hb dX6_causeIn_7 (by decide) ?_
    have e9 : 0 = (pX6_causeIn a1) := by simp only [pX6_causeIn, if_neg c_1]
    exact W.iret (v := 0) hx hb hr (fun t ht hW => ⟨_, rfl, e9, ht⟩) (fun _ h => absurd h List.not_mem_nil) dX6_causeIn_11
theorem bS_X6_causeIn : BS yX6_causeIn cX6_causeIn 1 (some .int) 1 := ⟨wcd_X6_causeIn, wst_X6_causeIn, win_RX6, by decide +kernel⟩
def pX4_isGangway (a1 : Int32) : Int32 := (if (pX6_isWithin a1 0 27) = 0 then 0 else (if 16 ≤ a1 then 1 else (if (a1 - a1 / 4 * 4) = 3 then 0 else 1)))
set_option maxHeartbeats 4000000 in
set_option maxRecDepth 100000 in
theorem kX4_isGangway (l : Launch) (D : va_G) (cyC cyI cyO : ClassId) (a1 : Int32) : RO l yX4_isGangway (Ty yX4_isGangway cX4_isGangway 1 (some .boolean)) ({ frames := 1, cells := 0, slots := 0, locals := 22 } : Room) D cyC cyI cyO [] [.int a1] (pX4_isGangway a1) := by
  refine Met.ofW (cc := cX4_isGangway) (maxL := 1) (ret := (some .boolean)) (by decide) rfl ?_
  intro p e s m args below meth cd s₁ B hml hv
  obtain ⟨rfl, hP, hK⟩ := hv
  have hx := B.exec
  have hb := B.bytes
  have hr := B.returns
  have hts : ∀ w ∈ TB, w.before ([.int a1] : List Value).toArray s = true := fun w h => atoms_spec (ws := (Ty yX4_isGangway cX4_isGangway 1 (some .boolean))) B.pre w (List.mem_cons_of_mem _ h)
  have hown : s.vm.findClass RX4 = some m.cls := findClass_of_methodNamed B.named
  have hlocks := B.notSynchronized
  have hl := lv_entry ([.int a1]) (n := 1) (Nat.le_of_ble_eq_true rfl)
  rw [lg_entry_eq]
  generalize (lg_sl ([.int a1]) ++ List.replicate (1 - (lg_sl ([.int a1])).length) Slot.unset).toArray = ls at hl ⊢
  have hl : lv_has ls 1 [(0, .int a1)] := hl
  refine lv_iload_n hx hb dX4_isGangway_0 rfl (lv_at hl 0 rfl) ?_
  refine lv_iconst (v := 0) hx hb dX4_isGangway_1 (by decide) ?_
  refine lv_bipush (v := 27) hx hb dX4_isGangway_2 (by decide) ?_
  refine rN (As := [.int a1, .int 0, .int 27]) (rest := []) hx hb hml hown hts hl.1 (kX6_isWithin l D cyC cyI cyO a1 0 27) bS_X6_isWithin  hK.2.2.1 ⟨rfl, rfl⟩ ⟨Nat.le_of_ble_eq_true rfl, Nat.le_of_ble_eq_true rfl, Nat.zero_le _, Nat.zero_le _⟩ [] rfl hP hK rfl rfl (Nat.le_of_ble_eq_true rfl) dX4_isGangway_4 ?_
  refine lv_if_ne (tgt := 12) hx hb dX4_isGangway_7 (by decide) (fun c_1 => ?_) (fun c_1 => ?_)
  · refine lv_iload_n hx hb dX4_isGangway_12 rfl (lv_at hl 0 rfl) ?_
    refine lv_bipush (v := 16) hx hb dX4_isGangway_13 (by decide) ?_
    refine lv_icmp_ge (tgt := 25) hx hb dX4_isGangway_15 (by decide) (fun c_2 => ?_) (fun c_2 => ?_)
    · refine lv_iconst (v := 1) hx hb dX4_isGangway_25 (by decide) ?_
      refine lv_goto (tgt := 30) hx hb dX4_isGangway_26 (by decide) ?_
      have e9 : 1 = (pX4_isGangway a1) := by simp only [pX4_isGangway, if_neg c_1, if_pos c_2]
      exact W.zret (ty := .boolean) (v := 1) hx hb hr (by rfl) (fun t ht hW => ⟨_, rfl, e9, ht⟩) (fun _ h => absurd h List.not_mem_nil) dX4_isGangway_30
    · refine lv_iload_n hx hb dX4_isGangway_18 rfl (lv_at hl 0 rfl) ?_
      refine lv_iconst (v := 4) hx hb dX4_isGangway_19 (by decide) ?_
      refine lv_irem hx hb dX4_isGangway_20 (by decide) ?_
      refine lv_iconst (v := 3) hx hb dX4_isGangway_21 (by decide) ?_
      refine lv_icmp_eq (tgt := 29) hx hb dX4_isGangway_22 (by decide) (fun c_3 => ?_) (fun c_3 => ?_)
      · refine lv_iconst (v := 0) hx hb dX4_isGangway_29 (by decide) ?_
        have e9 : 0 = (pX4_isGangway a1) := by simp only [pX4_isGangway, if_neg c_1, if_neg c_2, if_pos c_3]
        exact W.zret (ty := .boolean) (v := 0) hx hb hr (by rfl) (fun t ht hW => ⟨_, rfl, e9, ht⟩) (fun _ h => absurd h List.not_mem_nil) dX4_isGangway_30
      · refine lv_iconst (v := 1) hx hb dX4_isGangway_25 (by decide) ?_
        refine lv_goto (tgt := 30) hx hb dX4_isGangway_26 (by decide) ?_
        have e9 : 1 = (pX4_isGangway a1) := by simp only [pX4_isGangway, if_neg c_1, if_neg c_2, if_neg c_3]
        exact W.zret (ty := .boolean) (v := 1) hx hb hr (by rfl) (fun t ht hW => ⟨_, rfl, e9, ht⟩) (fun _ h => absurd h List.not_mem_nil) dX4_isGangway_30
  · refine lv_iconst (v := 0) hx hb dX4_isGangway_10 (by decide) ?_
    have e9 : 0 = (pX4_isGangway a1) := by simp only [pX4_isGangway, if_pos c_1]
    exact W.zret (ty := .boolean) (v := 0) hx hb hr (by rfl) (fun t ht hW => ⟨_, rfl, e9, ht⟩) (fun _ h => absurd h List.not_mem_nil) dX4_isGangway_11
theorem z_X4_isGangway (a1 : Int32) : (pX4_isGangway a1) = 0 ∨ (pX4_isGangway a1) = 1 := by
  unfold pX4_isGangway
  (repeat' split) <;> first | exact Or.inl rfl | exact Or.inr rfl
theorem bS_X4_isGangway : BS yX4_isGangway cX4_isGangway 1 (some .boolean) 1 := ⟨wcd_X4_isGangway, wst_X4_isGangway, win_RX4, by decide +kernel⟩
def pX4_lesserRoof (a1 : Int32) : Int32 := (if 16 ≤ a1 then (a1 - 16) else a1)
set_option maxHeartbeats 4000000 in
set_option maxRecDepth 100000 in
theorem kX4_lesserRoof (l : Launch) (D : va_G) (cyC cyI cyO : ClassId) (a1 : Int32) : RO l yX4_lesserRoof (Ty yX4_lesserRoof cX4_lesserRoof 1 (some .int)) ({ frames := 0, cells := 0, slots := 0, locals := 0 } : Room) D cyC cyI cyO [] [.int a1] (pX4_lesserRoof a1) := by
  refine Met.ofW (cc := cX4_lesserRoof) (maxL := 1) (ret := (some .int)) (by decide) rfl ?_
  intro p e s m args below meth cd s₁ B hml hv
  obtain ⟨rfl, hP, hK⟩ := hv
  have hx := B.exec
  have hb := B.bytes
  have hr := B.returns
  have hts : ∀ w ∈ TB, w.before ([.int a1] : List Value).toArray s = true := fun w h => atoms_spec (ws := (Ty yX4_lesserRoof cX4_lesserRoof 1 (some .int))) B.pre w (List.mem_cons_of_mem _ h)
  have hown : s.vm.findClass RX4 = some m.cls := findClass_of_methodNamed B.named
  have hlocks := B.notSynchronized
  have hl := lv_entry ([.int a1]) (n := 1) (Nat.le_of_ble_eq_true rfl)
  rw [lg_entry_eq]
  generalize (lg_sl ([.int a1]) ++ List.replicate (1 - (lg_sl ([.int a1])).length) Slot.unset).toArray = ls at hl ⊢
  have hl : lv_has ls 1 [(0, .int a1)] := hl
  refine lv_iload_n hx hb dX4_lesserRoof_0 rfl (lv_at hl 0 rfl) ?_
  refine lv_bipush (v := 16) hx hb dX4_lesserRoof_1 (by decide) ?_
  refine lv_icmp_ge (tgt := 10) hx hb dX4_lesserRoof_3 (by decide) (fun c_1 => ?_) (fun c_1 => ?_)
  · refine lv_iload_n hx hb dX4_lesserRoof_10 rfl (lv_at hl 0 rfl) ?_
    refine lv_bipush (v := 16) hx hb dX4_lesserRoof_11 (by decide) ?_
    refine lv_isub hx hb dX4_lesserRoof_13 ?_
    have e9 : (a1 - 16) = (pX4_lesserRoof a1) := by simp only [pX4_lesserRoof, if_pos c_1]
    exact W.iret (v := (a1 - 16)) hx hb hr (fun t ht hW => ⟨_, rfl, e9, ht⟩) (fun _ h => absurd h List.not_mem_nil) dX4_lesserRoof_14
  · refine lv_iload_n hx hb dX4_lesserRoof_6 rfl (lv_at hl 0 rfl) ?_
    refine lv_goto (tgt := 14) hx hb dX4_lesserRoof_7 (by decide) ?_
    have e9 : a1 = (pX4_lesserRoof a1) := by simp only [pX4_lesserRoof, if_neg c_1]
    exact W.iret (v := a1) hx hb hr (fun t ht hW => ⟨_, rfl, e9, ht⟩) (fun _ h => absurd h List.not_mem_nil) dX4_lesserRoof_14
theorem bS_X4_lesserRoof : BS yX4_lesserRoof cX4_lesserRoof 1 (some .int) 1 := ⟨wcd_X4_lesserRoof, wst_X4_lesserRoof, win_RX4, by decide +kernel⟩
def pX4_greaterRoof (a1 : Int32) : Int32 := (if 16 ≤ a1 then ((pX4_lesserRoof a1) + 4) else ((pX4_lesserRoof a1) + 1))
set_option maxHeartbeats 4000000 in
set_option maxRecDepth 100000 in
theorem kX4_greaterRoof (l : Launch) (D : va_G) (cyC cyI cyO : ClassId) (a1 : Int32) : RO l yX4_greaterRoof (Ty yX4_greaterRoof cX4_greaterRoof 1 (some .int)) ({ frames := 1, cells := 0, slots := 0, locals := 20 } : Room) D cyC cyI cyO [] [.int a1] (pX4_greaterRoof a1) := by
  refine Met.ofW (cc := cX4_greaterRoof) (maxL := 1) (ret := (some .int)) (by decide) rfl ?_
  intro p e s m args below meth cd s₁ B hml hv
  obtain ⟨rfl, hP, hK⟩ := hv
  have hx := B.exec
  have hb := B.bytes
  have hr := B.returns
  have hts : ∀ w ∈ TB, w.before ([.int a1] : List Value).toArray s = true := fun w h => atoms_spec (ws := (Ty yX4_greaterRoof cX4_greaterRoof 1 (some .int))) B.pre w (List.mem_cons_of_mem _ h)
  have hown : s.vm.findClass RX4 = some m.cls := findClass_of_methodNamed B.named
  have hlocks := B.notSynchronized
  have hl := lv_entry ([.int a1]) (n := 1) (Nat.le_of_ble_eq_true rfl)
  rw [lg_entry_eq]
  generalize (lg_sl ([.int a1]) ++ List.replicate (1 - (lg_sl ([.int a1])).length) Slot.unset).toArray = ls at hl ⊢
  have hl : lv_has ls 1 [(0, .int a1)] := hl
  refine lv_iload_n hx hb dX4_greaterRoof_0 rfl (lv_at hl 0 rfl) ?_
  refine rS (As := [.int a1]) (rest := []) hx hb hml hown hts hl.1 (kX4_lesserRoof l D cyC cyI cyO a1) bS_X4_lesserRoof  wml_RX4_13 ⟨rfl, rfl⟩ ⟨Nat.le_of_ble_eq_true rfl, Nat.le_of_ble_eq_true rfl, Nat.zero_le _, Nat.zero_le _⟩ [] rfl hP hK rfl rfl (Nat.le_of_ble_eq_true rfl) dX4_greaterRoof_1 ?_
  refine lv_iload_n hx hb dX4_greaterRoof_4 rfl (lv_at hl 0 rfl) ?_
  refine lv_bipush (v := 16) hx hb dX4_greaterRoof_5 (by decide) ?_
  refine lv_icmp_ge (tgt := 14) hx hb dX4_greaterRoof_7 (by decide) (fun c_1 => ?_) (fun c_1 => ?_)
  · refine lv_iconst (v := 4) hx hb dX4_greaterRoof_14 (by decide) ?_
    refine lv_iadd hx hb dX4_greaterRoof_15 ?_
    have e9 : ((pX4_lesserRoof a1) + 4) = (pX4_greaterRoof a1) := by simp only [pX4_greaterRoof, if_pos c_1]
    exact W.iret (v := ((pX4_lesserRoof a1) + 4)) hx hb hr (fun t ht hW => ⟨_, rfl, e9, ht⟩) (fun _ h => absurd h List.not_mem_nil) dX4_greaterRoof_16
  · refine lv_iconst (v := 1) hx hb dX4_greaterRoof_10 (by decide) ?_
    refine lv_goto (tgt := 15) hx hb dX4_greaterRoof_11 (by decide) ?_
    refine lv_iadd hx hb dX4_greaterRoof_15 ?_
    have e9 : ((pX4_lesserRoof a1) + 1) = (pX4_greaterRoof a1) := by simp only [pX4_greaterRoof, if_neg c_1]
    exact W.iret (v := ((pX4_lesserRoof a1) + 1)) hx hb hr (fun t ht hW => ⟨_, rfl, e9, ht⟩) (fun _ h => absurd h List.not_mem_nil) dX4_greaterRoof_16
theorem bS_X4_greaterRoof : BS yX4_greaterRoof cX4_greaterRoof 1 (some .int) 1 := ⟨wcd_X4_greaterRoof, wst_X4_greaterRoof, win_RX4, by decide +kernel⟩
def pX4_roofsOf (a1 : Int32) : Int32 := ((1 <<< ((pX4_lesserRoof a1) &&& 31)) ||| (1 <<< ((pX4_greaterRoof a1) &&& 31)))
set_option maxHeartbeats 4000000 in
set_option maxRecDepth 100000 in
theorem kX4_roofsOf (l : Launch) (D : va_G) (cyC cyI cyO : ClassId) (a1 : Int32) : RO l yX4_roofsOf (Ty yX4_roofsOf cX4_roofsOf 1 (some .int)) ({ frames := 2, cells := 0, slots := 0, locals := 40 } : Room) D cyC cyI cyO [] [.int a1] (pX4_roofsOf a1) := by
  refine Met.ofW (cc := cX4_roofsOf) (maxL := 1) (ret := (some .int)) (by decide) rfl ?_
  intro p e s m args below meth cd s₁ B hml hv
  obtain ⟨rfl, hP, hK⟩ := hv
  have hx := B.exec
  have hb := B.bytes
  have hr := B.returns
  have hts : ∀ w ∈ TB, w.before ([.int a1] : List Value).toArray s = true := fun w h => atoms_spec (ws := (Ty yX4_roofsOf cX4_roofsOf 1 (some .int))) B.pre w (List.mem_cons_of_mem _ h)
  have hown : s.vm.findClass RX4 = some m.cls := findClass_of_methodNamed B.named
  have hlocks := B.notSynchronized
  have hl := lv_entry ([.int a1]) (n := 1) (Nat.le_of_ble_eq_true rfl)
  rw [lg_entry_eq]
  generalize (lg_sl ([.int a1]) ++ List.replicate (1 - (lg_sl ([.int a1])).length) Slot.unset).toArray = ls at hl ⊢
  have hl : lv_has ls 1 [(0, .int a1)] := hl
  refine lv_iconst (v := 1) hx hb dX4_roofsOf_0 (by decide) ?_
  refine lv_iload_n hx hb dX4_roofsOf_1 rfl (lv_at hl 0 rfl) ?_
  refine rS (As := [.int a1]) (rest := [.int 1]) hx hb hml hown hts hl.1 (kX4_lesserRoof l D cyC cyI cyO a1) bS_X4_lesserRoof  wml_RX4_13 ⟨rfl, rfl⟩ ⟨Nat.le_of_ble_eq_true rfl, Nat.le_of_ble_eq_true rfl, Nat.zero_le _, Nat.zero_le _⟩ [] rfl hP hK rfl rfl (Nat.le_of_ble_eq_true rfl) dX4_roofsOf_2 ?_
  refine lv_ishl hx hb dX4_roofsOf_5 ?_
  refine lv_iconst (v := 1) hx hb dX4_roofsOf_6 (by decide) ?_
  refine lv_iload_n hx hb dX4_roofsOf_7 rfl (lv_at hl 0 rfl) ?_
  refine rS (As := [.int a1]) (rest := [.int 1, .int (1 <<< ((pX4_lesserRoof a1) &&& 31))]) hx hb hml hown hts hl.1 (kX4_greaterRoof l D cyC cyI cyO a1) bS_X4_greaterRoof  wml_RX4_19 ⟨rfl, rfl⟩ ⟨Nat.le_of_ble_eq_true rfl, Nat.le_of_ble_eq_true rfl, Nat.zero_le _, Nat.zero_le _⟩ [] rfl hP hK rfl rfl (Nat.le_of_ble_eq_true rfl) dX4_roofsOf_8 ?_
  refine lv_ishl hx hb dX4_roofsOf_11 ?_
  refine lv_ior hx hb dX4_roofsOf_12 ?_
  have e9 : ((1 <<< ((pX4_lesserRoof a1) &&& 31)) ||| (1 <<< ((pX4_greaterRoof a1) &&& 31))) = (pX4_roofsOf a1) := rfl
  exact W.iret (v := ((1 <<< ((pX4_lesserRoof a1) &&& 31)) ||| (1 <<< ((pX4_greaterRoof a1) &&& 31)))) hx hb hr (fun t ht hW => ⟨_, rfl, e9, ht⟩) (fun _ h => absurd h List.not_mem_nil) dX4_roofsOf_13
theorem bS_X4_roofsOf : BS yX4_roofsOf cX4_roofsOf 1 (some .int) 1 := ⟨wcd_X4_roofsOf, wst_X4_roofsOf, win_RX4, by decide +kernel⟩
def pX4_otherRoof (a1 : Int32) (a2 : Int32) : Int32 := (if a2 = (pX4_lesserRoof a1) then (pX4_greaterRoof a1) else (pX4_lesserRoof a1))
set_option maxHeartbeats 4000000 in
set_option maxRecDepth 100000 in
theorem kX4_otherRoof (l : Launch) (D : va_G) (cyC cyI cyO : ClassId) (a1 : Int32) (a2 : Int32) : RO l yX4_otherRoof (Ty yX4_otherRoof cX4_otherRoof 2 (some .int)) ({ frames := 2, cells := 0, slots := 0, locals := 40 } : Room) D cyC cyI cyO [] [.int a1, .int a2] (pX4_otherRoof a1 a2) := by
  refine Met.ofW (cc := cX4_otherRoof) (maxL := 2) (ret := (some .int)) (by decide) rfl ?_
  intro p e s m args below meth cd s₁ B hml hv
  obtain ⟨rfl, hP, hK⟩ := hv
  have hx := B.exec
  have hb := B.bytes
  have hr := B.returns
  have hts : ∀ w ∈ TB, w.before ([.int a1, .int a2] : List Value).toArray s = true := fun w h => atoms_spec (ws := (Ty yX4_otherRoof cX4_otherRoof 2 (some .int))) B.pre w (List.mem_cons_of_mem _ h)
  have hown : s.vm.findClass RX4 = some m.cls := findClass_of_methodNamed B.named
  have hlocks := B.notSynchronized
  have hl := lv_entry ([.int a1, .int a2]) (n := 2) (Nat.le_of_ble_eq_true rfl)
  rw [lg_entry_eq]
  generalize (lg_sl ([.int a1, .int a2]) ++ List.replicate (2 - (lg_sl ([.int a1, .int a2])).length) Slot.unset).toArray = ls at hl ⊢
  have hl : lv_has ls 2 [(0, .int a1), (1, .int a2)] := hl
  refine lv_iload_n hx hb dX4_otherRoof_0 rfl (lv_at hl 1 rfl) ?_
  refine lv_iload_n hx hb dX4_otherRoof_1 rfl (lv_at hl 0 rfl) ?_
  refine rS (As := [.int a1]) (rest := [.int a2]) hx hb hml hown hts hl.1 (kX4_lesserRoof l D cyC cyI cyO a1) bS_X4_lesserRoof  wml_RX4_13 ⟨rfl, rfl⟩ ⟨Nat.le_of_ble_eq_true rfl, Nat.le_of_ble_eq_true rfl, Nat.zero_le _, Nat.zero_le _⟩ [] rfl hP hK rfl rfl (Nat.le_of_ble_eq_true rfl) dX4_otherRoof_2 ?_
  refine lv_icmp_ne (tgt := 15) hx hb dX4_otherRoof_5 (by decide) (fun c_1 => ?_) (fun c_1 => ?_)
  · refine lv_iload_n hx hb dX4_otherRoof_15 rfl (lv_at hl 0 rfl) ?_
    refine rS (As := [.int a1]) (rest := []) hx hb hml hown hts hl.1 (kX4_lesserRoof l D cyC cyI cyO a1) bS_X4_lesserRoof  wml_RX4_13 ⟨rfl, rfl⟩ ⟨Nat.le_of_ble_eq_true rfl, Nat.le_of_ble_eq_true rfl, Nat.zero_le _, Nat.zero_le _⟩ [] rfl hP hK rfl rfl (Nat.le_of_ble_eq_true rfl) dX4_otherRoof_16 ?_
    have e9 : (pX4_lesserRoof a1) = (pX4_otherRoof a1 a2) := by simp only [pX4_otherRoof, if_neg c_1]
    exact W.iret (v := (pX4_lesserRoof a1)) hx hb hr (fun t ht hW => ⟨_, rfl, e9, ht⟩) (fun _ h => absurd h List.not_mem_nil) dX4_otherRoof_19
  · refine lv_iload_n hx hb dX4_otherRoof_8 rfl (lv_at hl 0 rfl) ?_
    refine rS (As := [.int a1]) (rest := []) hx hb hml hown hts hl.1 (kX4_greaterRoof l D cyC cyI cyO a1) bS_X4_greaterRoof  wml_RX4_19 ⟨rfl, rfl⟩ ⟨Nat.le_of_ble_eq_true rfl, Nat.le_of_ble_eq_true rfl, Nat.zero_le _, Nat.zero_le _⟩ [] rfl hP hK rfl rfl (Nat.le_of_ble_eq_true rfl) dX4_otherRoof_9 ?_
    refine lv_goto (tgt := 19) hx hb dX4_otherRoof_12 (by decide) ?_
    have e9 : (pX4_greaterRoof a1) = (pX4_otherRoof a1 a2) := by simp only [pX4_otherRoof, if_pos c_1]
    exact W.iret (v := (pX4_greaterRoof a1)) hx hb hr (fun t ht hW => ⟨_, rfl, e9, ht⟩) (fun _ h => absurd h List.not_mem_nil) dX4_otherRoof_19
theorem bS_X4_otherRoof : BS yX4_otherRoof cX4_otherRoof 2 (some .int) 2 := ⟨wcd_X4_otherRoof, wst_X4_otherRoof, win_RX4, by decide +kernel⟩
def pX4_gangwaysOf_L4 (a1 : Int32) : Nat → Int32 := fo (fun i x_i => (if (pX4_isGangway (nI i)) = 0 then x_i else (if (pX6_isIn (pX4_roofsOf (nI i)) a1) = 0 then x_i else (x_i ||| (1 <<< ((nI i) &&& 31)))))) 0
theorem pX4_gangwaysOf_L4_s (a1 : Int32) (i : Nat) : pX4_gangwaysOf_L4 a1 (i + 1) = (if (pX4_isGangway (nI i)) = 0 then (pX4_gangwaysOf_L4 a1 i) else (if (pX6_isIn (pX4_roofsOf (nI i)) a1) = 0 then (pX4_gangwaysOf_L4 a1 i) else ((pX4_gangwaysOf_L4 a1 i) ||| (1 <<< ((nI i) &&& 31))))) := rfl
def pX4_gangwaysOf (a1 : Int32) : Int32 := (pX4_gangwaysOf_L4 a1 28)
set_option maxHeartbeats 4000000 in
set_option maxRecDepth 100000 in
theorem kX4_gangwaysOf (l : Launch) (D : va_G) (cyC cyI cyO : ClassId) (a1 : Int32) : RO l yX4_gangwaysOf (Ty yX4_gangwaysOf cX4_gangwaysOf 3 (some .int)) ({ frames := 3, cells := 0, slots := 0, locals := 60 } : Room) D cyC cyI cyO [] [.int a1] (pX4_gangwaysOf a1) := by
  refine Met.ofW (cc := cX4_gangwaysOf) (maxL := 3) (ret := (some .int)) (by decide) rfl ?_
  intro p e s m args below meth cd s₁ B hml hv
  obtain ⟨rfl, hP, hK⟩ := hv
  have hx := B.exec
  have hb := B.bytes
  have hr := B.returns
  have hts : ∀ w ∈ TB, w.before ([.int a1] : List Value).toArray s = true := fun w h => atoms_spec (ws := (Ty yX4_gangwaysOf cX4_gangwaysOf 3 (some .int))) B.pre w (List.mem_cons_of_mem _ h)
  have hown : s.vm.findClass RX4 = some m.cls := findClass_of_methodNamed B.named
  have hlocks := B.notSynchronized
  have hl := lv_entry ([.int a1]) (n := 3) (Nat.le_of_ble_eq_true rfl)
  rw [lg_entry_eq]
  generalize (lg_sl ([.int a1]) ++ List.replicate (3 - (lg_sl ([.int a1])).length) Slot.unset).toArray = ls at hl ⊢
  have hl : lv_has ls 3 [(0, .int a1)] := hl
  refine lv_iconst (v := 0) hx hb dX4_gangwaysOf_0 (by decide) ?_
  refine lv_istore_n (lv' := [(1, .int 0), (0, .int a1)]) hx hb dX4_gangwaysOf_1 rfl hl (by decide) rfl (fun ls hl => ?_)
  refine lv_iconst (v := 0) hx hb dX4_gangwaysOf_2 (by decide) ?_
  refine lv_istore_n (lv' := [(2, .int 0), (1, .int 0), (0, .int a1)]) hx hb dX4_gangwaysOf_3 rfl hl (by decide) rfl (fun ls hl => ?_)
  have key_4 : ∀ k i : Nat, i + k = 28 → ∀ (ls : Array Slot), lv_has ls 3 [(0, .int a1), (1, .int (pX4_gangwaysOf_L4 a1 i)), (2, .int (nI i))] → W p l e (headSpec (Ty yX4_gangwaysOf cX4_gangwaysOf 3 (some .int)) ({ frames := 3, cells := 0, slots := 0, locals := 60 } : Room)).room s m ([.int a1] : List Value).toArray below meth cd s.heap [] 0 0 (MQ below (vp_Si (fun x => x = (pX4_gangwaysOf a1))) ([.int a1] : List Value).toArray s 0 0 (fun _ => False)) (F0 m 4 ls []) := by
    intro k
    induction k with
    | zero =>
      intro i hi ls hl
      obtain rfl : i = 28 := hi
      refine lv_iload_n hx hb dX4_gangwaysOf_4 rfl (lv_at hl 2 rfl) ?_
      refine lv_bipush (v := 28) hx hb dX4_gangwaysOf_5 (by decide) ?_
      refine lv_icmp_ge (tgt := 40) hx hb dX4_gangwaysOf_7 (by decide) (fun c_1 => ?_) (fun c_1 => absurd (le_of (C := 28) (N := 28) (by decide)) c_1)
      refine lv_iload_n hx hb dX4_gangwaysOf_40 rfl (lv_at hl 1 rfl) ?_
      have e9 : (pX4_gangwaysOf_L4 a1 28) = (pX4_gangwaysOf a1) := rfl
      exact W.iret (v := (pX4_gangwaysOf_L4 a1 28)) hx hb hr (fun t ht hW => ⟨_, rfl, e9, ht⟩) (fun _ h => absurd h List.not_mem_nil) dX4_gangwaysOf_41
    | succ k ih_4 =>
      intro i hi ls hl
      have hlt : i < 28 := by omega
      refine lv_iload_n hx hb dX4_gangwaysOf_4 rfl (lv_at hl 2 rfl) ?_
      refine lv_bipush (v := 28) hx hb dX4_gangwaysOf_5 (by decide) ?_
      refine lv_icmp_ge (tgt := 40) hx hb dX4_gangwaysOf_7 (by decide) (fun c_2 => absurd c_2 (nle_of (C := 28) (N := 28) (by decide) hlt (by decide))) (fun c_2 => ?_)
      refine lv_iload_n hx hb dX4_gangwaysOf_10 rfl (lv_at hl 2 rfl) ?_
      refine rS (As := [.int (nI i)]) (rest := []) hx hb hml hown hts hl.1 (kX4_isGangway l D cyC cyI cyO (nI i)) bS_X4_isGangway  wml_RX4_22 ⟨rfl, rfl⟩ ⟨Nat.le_of_ble_eq_true rfl, Nat.le_of_ble_eq_true rfl, Nat.zero_le _, Nat.zero_le _⟩ [] rfl hP hK rfl rfl (Nat.le_of_ble_eq_true rfl) dX4_gangwaysOf_11 ?_
      refine lv_if_eq (tgt := 34) hx hb dX4_gangwaysOf_14 (by decide) (fun c_3 => ?_) (fun c_3 => ?_)
      · refine lv_iinc (v := (nI (i + 1))) (lv' := [(2, .int (nI (i + 1))), (0, .int a1), (1, .int (pX4_gangwaysOf_L4 a1 i))]) hx hb dX4_gangwaysOf_34 hl (k := 2) rfl (nI_succ i).symm (by decide) rfl (fun ls hl => ?_)
        refine lv_goto (tgt := 4) hx hb dX4_gangwaysOf_37 (by decide) ?_
        have e8 : pX4_gangwaysOf_L4 a1 (i + 1) = (pX4_gangwaysOf_L4 a1 i) := by rw [pX4_gangwaysOf_L4_s]; simp only [if_pos c_3]
        exact ih_4 (i + 1) (by omega) ls (by rw [e8]; exact lv_sub hl [1, 2, 0] rfl)
      · refine lv_iload_n hx hb dX4_gangwaysOf_17 rfl (lv_at hl 2 rfl) ?_
        refine rS (As := [.int (nI i)]) (rest := []) hx hb hml hown hts hl.1 (kX4_roofsOf l D cyC cyI cyO (nI i)) bS_X4_roofsOf  wml_RX4_26 ⟨rfl, rfl⟩ ⟨Nat.le_of_ble_eq_true rfl, Nat.le_of_ble_eq_true rfl, Nat.zero_le _, Nat.zero_le _⟩ [] rfl hP hK rfl rfl (Nat.le_of_ble_eq_true rfl) dX4_gangwaysOf_18 ?_
        refine lv_iload_n hx hb dX4_gangwaysOf_21 rfl (lv_at hl 0 rfl) ?_
        refine rN (As := [.int (pX4_roofsOf (nI i)), .int a1]) (rest := []) hx hb hml hown hts hl.1 (kX6_isIn l D cyC cyI cyO (pX4_roofsOf (nI i)) a1) bS_X6_isIn  hK.2.2.2.1 ⟨rfl, rfl⟩ ⟨Nat.le_of_ble_eq_true rfl, Nat.le_of_ble_eq_true rfl, Nat.zero_le _, Nat.zero_le _⟩ [] rfl hP hK rfl rfl (Nat.le_of_ble_eq_true rfl) dX4_gangwaysOf_22 ?_
        refine lv_if_eq (tgt := 34) hx hb dX4_gangwaysOf_25 (by decide) (fun c_4 => ?_) (fun c_4 => ?_)
        · refine lv_iinc (v := (nI (i + 1))) (lv' := [(2, .int (nI (i + 1))), (0, .int a1), (1, .int (pX4_gangwaysOf_L4 a1 i))]) hx hb dX4_gangwaysOf_34 hl (k := 2) rfl (nI_succ i).symm (by decide) rfl (fun ls hl => ?_)
          refine lv_goto (tgt := 4) hx hb dX4_gangwaysOf_37 (by decide) ?_
          have e8 : pX4_gangwaysOf_L4 a1 (i + 1) = (pX4_gangwaysOf_L4 a1 i) := by rw [pX4_gangwaysOf_L4_s]; simp only [if_neg c_3, if_pos c_4]
          exact ih_4 (i + 1) (by omega) ls (by rw [e8]; exact lv_sub hl [1, 2, 0] rfl)
        · refine lv_iload_n hx hb dX4_gangwaysOf_28 rfl (lv_at hl 1 rfl) ?_
          refine lv_iconst (v := 1) hx hb dX4_gangwaysOf_29 (by decide) ?_
          refine lv_iload_n hx hb dX4_gangwaysOf_30 rfl (lv_at hl 2 rfl) ?_
          refine lv_ishl hx hb dX4_gangwaysOf_31 ?_
          refine lv_ior hx hb dX4_gangwaysOf_32 ?_
          refine lv_istore_n (lv' := [(1, .int ((pX4_gangwaysOf_L4 a1 i) ||| (1 <<< ((nI i) &&& 31)))), (0, .int a1), (2, .int (nI i))]) hx hb dX4_gangwaysOf_33 rfl hl (by decide) rfl (fun ls hl => ?_)
          refine lv_iinc (v := (nI (i + 1))) (lv' := [(2, .int (nI (i + 1))), (1, .int ((pX4_gangwaysOf_L4 a1 i) ||| (1 <<< ((nI i) &&& 31)))), (0, .int a1)]) hx hb dX4_gangwaysOf_34 hl (k := 2) rfl (nI_succ i).symm (by decide) rfl (fun ls hl => ?_)
          refine lv_goto (tgt := 4) hx hb dX4_gangwaysOf_37 (by decide) ?_
          have e8 : pX4_gangwaysOf_L4 a1 (i + 1) = ((pX4_gangwaysOf_L4 a1 i) ||| (1 <<< ((nI i) &&& 31))) := by rw [pX4_gangwaysOf_L4_s]; simp only [if_neg c_3, if_neg c_4]
          exact ih_4 (i + 1) (by omega) ls (by rw [e8]; exact lv_sub hl [2, 1, 0] rfl)
  exact key_4 28 0 (Nat.zero_add 28) ls (lv_sub hl [2, 1, 0] rfl)
theorem bS_X4_gangwaysOf : BS yX4_gangwaysOf cX4_gangwaysOf 3 (some .int) 1 := ⟨wcd_X4_gangwaysOf, wst_X4_gangwaysOf, win_RX4, by decide +kernel⟩
def pX4_nextRoof (a1 : Int32) (a2 : Int32) : Int32 := (if a2 = 0 then (if 3 ≤ (a1 - a1 / 4 * 4) then (-1) else (a1 + 1)) else (if a2 = 1 then (if 12 ≤ a1 then (-1) else (a1 + 4)) else (if a2 = 2 then (if (a1 - a1 / 4 * 4) ≤ 0 then (-1) else (a1 - 1)) else (if a1 < 4 then (-1) else (a1 - 4)))))
set_option maxHeartbeats 4000000 in
set_option maxRecDepth 100000 in
theorem kX4_nextRoof (l : Launch) (D : va_G) (cyC cyI cyO : ClassId) (a1 : Int32) (a2 : Int32) : RO l yX4_nextRoof (Ty yX4_nextRoof cX4_nextRoof 2 (some .int)) ({ frames := 0, cells := 0, slots := 0, locals := 0 } : Room) D cyC cyI cyO [] [.int a1, .int a2] (pX4_nextRoof a1 a2) := by
  refine Met.ofW (cc := cX4_nextRoof) (maxL := 2) (ret := (some .int)) (by decide) rfl ?_
  intro p e s m args below meth cd s₁ B hml hv
  obtain ⟨rfl, hP, hK⟩ := hv
  have hx := B.exec
  have hb := B.bytes
  have hr := B.returns
  have hts : ∀ w ∈ TB, w.before ([.int a1, .int a2] : List Value).toArray s = true := fun w h => atoms_spec (ws := (Ty yX4_nextRoof cX4_nextRoof 2 (some .int))) B.pre w (List.mem_cons_of_mem _ h)
  have hown : s.vm.findClass RX4 = some m.cls := findClass_of_methodNamed B.named
  have hlocks := B.notSynchronized
  have hl := lv_entry ([.int a1, .int a2]) (n := 2) (Nat.le_of_ble_eq_true rfl)
  rw [lg_entry_eq]
  generalize (lg_sl ([.int a1, .int a2]) ++ List.replicate (2 - (lg_sl ([.int a1, .int a2])).length) Slot.unset).toArray = ls at hl ⊢
  have hl : lv_has ls 2 [(0, .int a1), (1, .int a2)] := hl
  refine lv_iload_n hx hb dX4_nextRoof_0 rfl (lv_at hl 1 rfl) ?_
  by_cases c_1 : a2 = 0
  · refine lv_tableIn (off := 27) (tgt := 28) hx hb dX4_nextRoof_1 (by rw [c_1]; decide) (by rw [c_1]; decide) (by rw [c_1]; rfl) (by decide) ?_
    refine lv_iload_n hx hb dX4_nextRoof_28 rfl (lv_at hl 0 rfl) ?_
    refine lv_iconst (v := 4) hx hb dX4_nextRoof_29 (by decide) ?_
    refine lv_irem hx hb dX4_nextRoof_30 (by decide) ?_
    refine lv_iconst (v := 3) hx hb dX4_nextRoof_31 (by decide) ?_
    refine lv_icmp_ge (tgt := 41) hx hb dX4_nextRoof_32 (by decide) (fun c_4 => ?_) (fun c_4 => ?_)
    · refine lv_iconst (v := (-1)) hx hb dX4_nextRoof_41 (by decide) ?_
      have e9 : (-1) = (pX4_nextRoof a1 a2) := by simp only [pX4_nextRoof, if_pos c_1, if_pos c_4]
      exact W.iret (v := (-1)) hx hb hr (fun t ht hW => ⟨_, rfl, e9, ht⟩) (fun _ h => absurd h List.not_mem_nil) dX4_nextRoof_42
    · refine lv_iload_n hx hb dX4_nextRoof_35 rfl (lv_at hl 0 rfl) ?_
      refine lv_iconst (v := 1) hx hb dX4_nextRoof_36 (by decide) ?_
      refine lv_iadd hx hb dX4_nextRoof_37 ?_
      refine lv_goto (tgt := 42) hx hb dX4_nextRoof_38 (by decide) ?_
      have e9 : (a1 + 1) = (pX4_nextRoof a1 a2) := by simp only [pX4_nextRoof, if_pos c_1, if_neg c_4]
      exact W.iret (v := (a1 + 1)) hx hb hr (fun t ht hW => ⟨_, rfl, e9, ht⟩) (fun _ h => absurd h List.not_mem_nil) dX4_nextRoof_42
  · by_cases c_2 : a2 = 1
    · refine lv_tableIn (off := 42) (tgt := 43) hx hb dX4_nextRoof_1 (by rw [c_2]; decide) (by rw [c_2]; decide) (by rw [c_2]; rfl) (by decide) ?_
      refine lv_iload_n hx hb dX4_nextRoof_43 rfl (lv_at hl 0 rfl) ?_
      refine lv_bipush (v := 12) hx hb dX4_nextRoof_44 (by decide) ?_
      refine lv_icmp_ge (tgt := 55) hx hb dX4_nextRoof_46 (by decide) (fun c_5 => ?_) (fun c_5 => ?_)
      · refine lv_iconst (v := (-1)) hx hb dX4_nextRoof_55 (by decide) ?_
        have e9 : (-1) = (pX4_nextRoof a1 a2) := by simp only [pX4_nextRoof, if_neg c_1, if_pos c_2, if_pos c_5]
        exact W.iret (v := (-1)) hx hb hr (fun t ht hW => ⟨_, rfl, e9, ht⟩) (fun _ h => absurd h List.not_mem_nil) dX4_nextRoof_56
      · refine lv_iload_n hx hb dX4_nextRoof_49 rfl (lv_at hl 0 rfl) ?_
        refine lv_iconst (v := 4) hx hb dX4_nextRoof_50 (by decide) ?_
        refine lv_iadd hx hb dX4_nextRoof_51 ?_
        refine lv_goto (tgt := 56) hx hb dX4_nextRoof_52 (by decide) ?_
        have e9 : (a1 + 4) = (pX4_nextRoof a1 a2) := by simp only [pX4_nextRoof, if_neg c_1, if_pos c_2, if_neg c_5]
        exact W.iret (v := (a1 + 4)) hx hb hr (fun t ht hW => ⟨_, rfl, e9, ht⟩) (fun _ h => absurd h List.not_mem_nil) dX4_nextRoof_56
    · by_cases c_3 : a2 = 2
      · refine lv_tableIn (off := 56) (tgt := 57) hx hb dX4_nextRoof_1 (by rw [c_3]; decide) (by rw [c_3]; decide) (by rw [c_3]; rfl) (by decide) ?_
        refine lv_iload_n hx hb dX4_nextRoof_57 rfl (lv_at hl 0 rfl) ?_
        refine lv_iconst (v := 4) hx hb dX4_nextRoof_58 (by decide) ?_
        refine lv_irem hx hb dX4_nextRoof_59 (by decide) ?_
        refine lv_if_le (tgt := 69) hx hb dX4_nextRoof_60 (by decide) (fun c_6 => ?_) (fun c_6 => ?_)
        · refine lv_iconst (v := (-1)) hx hb dX4_nextRoof_69 (by decide) ?_
          have e9 : (-1) = (pX4_nextRoof a1 a2) := by simp only [pX4_nextRoof, if_neg c_1, if_neg c_2, if_pos c_3, if_pos c_6]
          exact W.iret (v := (-1)) hx hb hr (fun t ht hW => ⟨_, rfl, e9, ht⟩) (fun _ h => absurd h List.not_mem_nil) dX4_nextRoof_70
        · refine lv_iload_n hx hb dX4_nextRoof_63 rfl (lv_at hl 0 rfl) ?_
          refine lv_iconst (v := 1) hx hb dX4_nextRoof_64 (by decide) ?_
          refine lv_isub hx hb dX4_nextRoof_65 ?_
          refine lv_goto (tgt := 70) hx hb dX4_nextRoof_66 (by decide) ?_
          have e9 : (a1 - 1) = (pX4_nextRoof a1 a2) := by simp only [pX4_nextRoof, if_neg c_1, if_neg c_2, if_pos c_3, if_neg c_6]
          exact W.iret (v := (a1 - 1)) hx hb hr (fun t ht hW => ⟨_, rfl, e9, ht⟩) (fun _ h => absurd h List.not_mem_nil) dX4_nextRoof_70
      · have nc_1 : (a2 : Int32).toInt ≠ 0 := fun h => c_1 (Int32.toInt_inj.mp (h.trans (by decide)))
        have nc_2 : (a2 : Int32).toInt ≠ 1 := fun h => c_2 (Int32.toInt_inj.mp (h.trans (by decide)))
        have nc_3 : (a2 : Int32).toInt ≠ 2 := fun h => c_3 (Int32.toInt_inj.mp (h.trans (by decide)))
        refine lv_tableOut (tgt := 71) hx hb dX4_nextRoof_1 (by omega) (by decide) ?_
        refine lv_iload_n hx hb dX4_nextRoof_71 rfl (lv_at hl 0 rfl) ?_
        refine lv_iconst (v := 4) hx hb dX4_nextRoof_72 (by decide) ?_
        refine lv_icmp_lt (tgt := 82) hx hb dX4_nextRoof_73 (by decide) (fun c_7 => ?_) (fun c_7 => ?_)
        · refine lv_iconst (v := (-1)) hx hb dX4_nextRoof_82 (by decide) ?_
          have e9 : (-1) = (pX4_nextRoof a1 a2) := by simp only [pX4_nextRoof, if_neg c_1, if_neg c_2, if_neg c_3, if_pos c_7]
          exact W.iret (v := (-1)) hx hb hr (fun t ht hW => ⟨_, rfl, e9, ht⟩) (fun _ h => absurd h List.not_mem_nil) dX4_nextRoof_83
        · refine lv_iload_n hx hb dX4_nextRoof_76 rfl (lv_at hl 0 rfl) ?_
          refine lv_iconst (v := 4) hx hb dX4_nextRoof_77 (by decide) ?_
          refine lv_isub hx hb dX4_nextRoof_78 ?_
          refine lv_goto (tgt := 83) hx hb dX4_nextRoof_79 (by decide) ?_
          have e9 : (a1 - 4) = (pX4_nextRoof a1 a2) := by simp only [pX4_nextRoof, if_neg c_1, if_neg c_2, if_neg c_3, if_neg c_7]
          exact W.iret (v := (a1 - 4)) hx hb hr (fun t ht hW => ⟨_, rfl, e9, ht⟩) (fun _ h => absurd h List.not_mem_nil) dX4_nextRoof_83
theorem bS_X4_nextRoof : BS yX4_nextRoof cX4_nextRoof 2 (some .int) 2 := ⟨wcd_X4_nextRoof, wst_X4_nextRoof, win_RX4, by decide +kernel⟩
def pJ6_bitCount_0f7a4 (a1 : Int32) : Int32 := ((((((((a1 - (((a1).toUInt32 >>> ((1 : Int32).toUInt32 &&& Int32.toUInt32 31)).toInt32 &&& 1431655765)) &&& 858993459) + ((((a1 - (((a1).toUInt32 >>> ((1 : Int32).toUInt32 &&& Int32.toUInt32 31)).toInt32 &&& 1431655765))).toUInt32 >>> ((2 : Int32).toUInt32 &&& Int32.toUInt32 31)).toInt32 &&& 858993459)) + (((((a1 - (((a1).toUInt32 >>> ((1 : Int32).toUInt32 &&& Int32.toUInt32 31)).toInt32 &&& 1431655765)) &&& 858993459) + ((((a1 - (((a1).toUInt32 >>> ((1 : Int32).toUInt32 &&& Int32.toUInt32 31)).toInt32 &&& 1431655765))).toUInt32 >>> ((2 : Int32).toUInt32 &&& Int32.toUInt32 31)).toInt32 &&& 858993459))).toUInt32 >>> ((4 : Int32).toUInt32 &&& Int32.toUInt32 31)).toInt32) &&& 252645135) + (((((((a1 - (((a1).toUInt32 >>> ((1 : Int32).toUInt32 &&& Int32.toUInt32 31)).toInt32 &&& 1431655765)) &&& 858993459) + ((((a1 - (((a1).toUInt32 >>> ((1 : Int32).toUInt32 &&& Int32.toUInt32 31)).toInt32 &&& 1431655765))).toUInt32 >>> ((2 : Int32).toUInt32 &&& Int32.toUInt32 31)).toInt32 &&& 858993459)) + (((((a1 - (((a1).toUInt32 >>> ((1 : Int32).toUInt32 &&& Int32.toUInt32 31)).toInt32 &&& 1431655765)) &&& 858993459) + ((((a1 - (((a1).toUInt32 >>> ((1 : Int32).toUInt32 &&& Int32.toUInt32 31)).toInt32 &&& 1431655765))).toUInt32 >>> ((2 : Int32).toUInt32 &&& Int32.toUInt32 31)).toInt32 &&& 858993459))).toUInt32 >>> ((4 : Int32).toUInt32 &&& Int32.toUInt32 31)).toInt32) &&& 252645135)).toUInt32 >>> ((8 : Int32).toUInt32 &&& Int32.toUInt32 31)).toInt32) + ((((((((a1 - (((a1).toUInt32 >>> ((1 : Int32).toUInt32 &&& Int32.toUInt32 31)).toInt32 &&& 1431655765)) &&& 858993459) + ((((a1 - (((a1).toUInt32 >>> ((1 : Int32).toUInt32 &&& Int32.toUInt32 31)).toInt32 &&& 1431655765))).toUInt32 >>> ((2 : Int32).toUInt32 &&& Int32.toUInt32 31)).toInt32 &&& 858993459)) + (((((a1 - (((a1).toUInt32 >>> ((1 : Int32).toUInt32 &&& Int32.toUInt32 31)).toInt32 &&& 1431655765)) &&& 858993459) + ((((a1 - (((a1).toUInt32 >>> ((1 : Int32).toUInt32 &&& Int32.toUInt32 31)).toInt32 &&& 1431655765))).toUInt32 >>> ((2 : Int32).toUInt32 &&& Int32.toUInt32 31)).toInt32 &&& 858993459))).toUInt32 >>> ((4 : Int32).toUInt32 &&& Int32.toUInt32 31)).toInt32) &&& 252645135) + (((((((a1 - (((a1).toUInt32 >>> ((1 : Int32).toUInt32 &&& Int32.toUInt32 31)).toInt32 &&& 1431655765)) &&& 858993459) + ((((a1 - (((a1).toUInt32 >>> ((1 : Int32).toUInt32 &&& Int32.toUInt32 31)).toInt32 &&& 1431655765))).toUInt32 >>> ((2 : Int32).toUInt32 &&& Int32.toUInt32 31)).toInt32 &&& 858993459)) + (((((a1 - (((a1).toUInt32 >>> ((1 : Int32).toUInt32 &&& Int32.toUInt32 31)).toInt32 &&& 1431655765)) &&& 858993459) + ((((a1 - (((a1).toUInt32 >>> ((1 : Int32).toUInt32 &&& Int32.toUInt32 31)).toInt32 &&& 1431655765))).toUInt32 >>> ((2 : Int32).toUInt32 &&& Int32.toUInt32 31)).toInt32 &&& 858993459))).toUInt32 >>> ((4 : Int32).toUInt32 &&& Int32.toUInt32 31)).toInt32) &&& 252645135)).toUInt32 >>> ((8 : Int32).toUInt32 &&& Int32.toUInt32 31)).toInt32)).toUInt32 >>> ((16 : Int32).toUInt32 &&& Int32.toUInt32 31)).toInt32) &&& 63)
set_option maxHeartbeats 4000000 in
set_option maxRecDepth 100000 in
theorem kJ6_bitCount_0f7a4 (l : Launch) (D : va_G) (cyC cyI cyO : ClassId) (a1 : Int32) : RO l yJ6_bitCount_0f7a4 (Ty yJ6_bitCount_0f7a4 cJ6_bitCount_0f7a4 1 (some .int)) ({ frames := 0, cells := 0, slots := 0, locals := 0 } : Room) D cyC cyI cyO [] [.int a1] (pJ6_bitCount_0f7a4 a1) := by
  refine Met.ofW (cc := cJ6_bitCount_0f7a4) (maxL := 1) (ret := (some .int)) (by decide) rfl ?_
  intro p e s m args below meth cd s₁ B hml hv
  obtain ⟨rfl, hP, hK⟩ := hv
  have hx := B.exec
  have hb := B.bytes
  have hr := B.returns
  have hts : ∀ w ∈ TB, w.before ([.int a1] : List Value).toArray s = true := fun w h => atoms_spec (ws := (Ty yJ6_bitCount_0f7a4 cJ6_bitCount_0f7a4 1 (some .int))) B.pre w (List.mem_cons_of_mem _ h)
  have hown : s.vm.findClass RJ6 = some m.cls := findClass_of_methodNamed B.named
  have hlocks := B.notSynchronized
  have hl := lv_entry ([.int a1]) (n := 1) (Nat.le_of_ble_eq_true rfl)
  rw [lg_entry_eq]
  generalize (lg_sl ([.int a1]) ++ List.replicate (1 - (lg_sl ([.int a1])).length) Slot.unset).toArray = ls at hl ⊢
  have hl : lv_has ls 1 [(0, .int a1)] := hl
  refine lv_iload_n hx hb dJ6_bitCount_0f7a4_0 rfl (lv_at hl 0 rfl) ?_
  refine lv_iload_n hx hb dJ6_bitCount_0f7a4_1 rfl (lv_at hl 0 rfl) ?_
  refine lv_iconst (v := 1) hx hb dJ6_bitCount_0f7a4_2 (by decide) ?_
  refine lv_iushr (v := ((a1).toUInt32 >>> ((1 : Int32).toUInt32 &&& Int32.toUInt32 31)).toInt32) hx hb dJ6_bitCount_0f7a4_3 rfl ?_
  refine lv_ldcw (v := 1431655765) hx hb hown (hts _ wco_RJ6_265) dJ6_bitCount_0f7a4_4 ?_
  refine lv_iand hx hb dJ6_bitCount_0f7a4_7 ?_
  refine lv_isub hx hb dJ6_bitCount_0f7a4_8 ?_
  refine lv_istore_n (lv' := [(0, .int (a1 - (((a1).toUInt32 >>> ((1 : Int32).toUInt32 &&& Int32.toUInt32 31)).toInt32 &&& 1431655765)))]) hx hb dJ6_bitCount_0f7a4_9 rfl hl (by decide) rfl (fun ls hl => ?_)
  refine lv_iload_n hx hb dJ6_bitCount_0f7a4_10 rfl (lv_at hl 0 rfl) ?_
  refine lv_ldcw (v := 858993459) hx hb hown (hts _ wco_RJ6_266) dJ6_bitCount_0f7a4_11 ?_
  refine lv_iand hx hb dJ6_bitCount_0f7a4_14 ?_
  refine lv_iload_n hx hb dJ6_bitCount_0f7a4_15 rfl (lv_at hl 0 rfl) ?_
  refine lv_iconst (v := 2) hx hb dJ6_bitCount_0f7a4_16 (by decide) ?_
  refine lv_iushr (v := (((a1 - (((a1).toUInt32 >>> ((1 : Int32).toUInt32 &&& Int32.toUInt32 31)).toInt32 &&& 1431655765))).toUInt32 >>> ((2 : Int32).toUInt32 &&& Int32.toUInt32 31)).toInt32) hx hb dJ6_bitCount_0f7a4_17 rfl ?_
  refine lv_ldcw (v := 858993459) hx hb hown (hts _ wco_RJ6_266) dJ6_bitCount_0f7a4_18 ?_
  refine lv_iand hx hb dJ6_bitCount_0f7a4_21 ?_
  refine lv_iadd hx hb dJ6_bitCount_0f7a4_22 ?_
  refine lv_istore_n (lv' := [(0, .int (((a1 - (((a1).toUInt32 >>> ((1 : Int32).toUInt32 &&& Int32.toUInt32 31)).toInt32 &&& 1431655765)) &&& 858993459) + ((((a1 - (((a1).toUInt32 >>> ((1 : Int32).toUInt32 &&& Int32.toUInt32 31)).toInt32 &&& 1431655765))).toUInt32 >>> ((2 : Int32).toUInt32 &&& Int32.toUInt32 31)).toInt32 &&& 858993459)))]) hx hb dJ6_bitCount_0f7a4_23 rfl hl (by decide) rfl (fun ls hl => ?_)
  refine lv_iload_n hx hb dJ6_bitCount_0f7a4_24 rfl (lv_at hl 0 rfl) ?_
  refine lv_iload_n hx hb dJ6_bitCount_0f7a4_25 rfl (lv_at hl 0 rfl) ?_
  refine lv_iconst (v := 4) hx hb dJ6_bitCount_0f7a4_26 (by decide) ?_
  refine lv_iushr (v := (((((a1 - (((a1).toUInt32 >>> ((1 : Int32).toUInt32 &&& Int32.toUInt32 31)).toInt32 &&& 1431655765)) &&& 858993459) + ((((a1 - (((a1).toUInt32 >>> ((1 : Int32).toUInt32 &&& Int32.toUInt32 31)).toInt32 &&& 1431655765))).toUInt32 >>> ((2 : Int32).toUInt32 &&& Int32.toUInt32 31)).toInt32 &&& 858993459))).toUInt32 >>> ((4 : Int32).toUInt32 &&& Int32.toUInt32 31)).toInt32) hx hb dJ6_bitCount_0f7a4_27 rfl ?_
  refine lv_iadd hx hb dJ6_bitCount_0f7a4_28 ?_
  refine lv_ldcw (v := 252645135) hx hb hown (hts _ wco_RJ6_267) dJ6_bitCount_0f7a4_29 ?_
  refine lv_iand hx hb dJ6_bitCount_0f7a4_32 ?_
  refine lv_istore_n (lv' := [(0, .int (((((a1 - (((a1).toUInt32 >>> ((1 : Int32).toUInt32 &&& Int32.toUInt32 31)).toInt32 &&& 1431655765)) &&& 858993459) + ((((a1 - (((a1).toUInt32 >>> ((1 : Int32).toUInt32 &&& Int32.toUInt32 31)).toInt32 &&& 1431655765))).toUInt32 >>> ((2 : Int32).toUInt32 &&& Int32.toUInt32 31)).toInt32 &&& 858993459)) + (((((a1 - (((a1).toUInt32 >>> ((1 : Int32).toUInt32 &&& Int32.toUInt32 31)).toInt32 &&& 1431655765)) &&& 858993459) + ((((a1 - (((a1).toUInt32 >>> ((1 : Int32).toUInt32 &&& Int32.toUInt32 31)).toInt32 &&& 1431655765))).toUInt32 >>> ((2 : Int32).toUInt32 &&& Int32.toUInt32 31)).toInt32 &&& 858993459))).toUInt32 >>> ((4 : Int32).toUInt32 &&& Int32.toUInt32 31)).toInt32) &&& 252645135))]) hx hb dJ6_bitCount_0f7a4_33 rfl hl (by decide) rfl (fun ls hl => ?_)
  refine lv_iload_n hx hb dJ6_bitCount_0f7a4_34 rfl (lv_at hl 0 rfl) ?_
  refine lv_iload_n hx hb dJ6_bitCount_0f7a4_35 rfl (lv_at hl 0 rfl) ?_
  refine lv_bipush (v := 8) hx hb dJ6_bitCount_0f7a4_36 (by decide) ?_
  refine lv_iushr (v := (((((((a1 - (((a1).toUInt32 >>> ((1 : Int32).toUInt32 &&& Int32.toUInt32 31)).toInt32 &&& 1431655765)) &&& 858993459) + ((((a1 - (((a1).toUInt32 >>> ((1 : Int32).toUInt32 &&& Int32.toUInt32 31)).toInt32 &&& 1431655765))).toUInt32 >>> ((2 : Int32).toUInt32 &&& Int32.toUInt32 31)).toInt32 &&& 858993459)) + (((((a1 - (((a1).toUInt32 >>> ((1 : Int32).toUInt32 &&& Int32.toUInt32 31)).toInt32 &&& 1431655765)) &&& 858993459) + ((((a1 - (((a1).toUInt32 >>> ((1 : Int32).toUInt32 &&& Int32.toUInt32 31)).toInt32 &&& 1431655765))).toUInt32 >>> ((2 : Int32).toUInt32 &&& Int32.toUInt32 31)).toInt32 &&& 858993459))).toUInt32 >>> ((4 : Int32).toUInt32 &&& Int32.toUInt32 31)).toInt32) &&& 252645135)).toUInt32 >>> ((8 : Int32).toUInt32 &&& Int32.toUInt32 31)).toInt32) hx hb dJ6_bitCount_0f7a4_38 rfl ?_
  refine lv_iadd hx hb dJ6_bitCount_0f7a4_39 ?_
  refine lv_istore_n (lv' := [(0, .int ((((((a1 - (((a1).toUInt32 >>> ((1 : Int32).toUInt32 &&& Int32.toUInt32 31)).toInt32 &&& 1431655765)) &&& 858993459) + ((((a1 - (((a1).toUInt32 >>> ((1 : Int32).toUInt32 &&& Int32.toUInt32 31)).toInt32 &&& 1431655765))).toUInt32 >>> ((2 : Int32).toUInt32 &&& Int32.toUInt32 31)).toInt32 &&& 858993459)) + (((((a1 - (((a1).toUInt32 >>> ((1 : Int32).toUInt32 &&& Int32.toUInt32 31)).toInt32 &&& 1431655765)) &&& 858993459) + ((((a1 - (((a1).toUInt32 >>> ((1 : Int32).toUInt32 &&& Int32.toUInt32 31)).toInt32 &&& 1431655765))).toUInt32 >>> ((2 : Int32).toUInt32 &&& Int32.toUInt32 31)).toInt32 &&& 858993459))).toUInt32 >>> ((4 : Int32).toUInt32 &&& Int32.toUInt32 31)).toInt32) &&& 252645135) + (((((((a1 - (((a1).toUInt32 >>> ((1 : Int32).toUInt32 &&& Int32.toUInt32 31)).toInt32 &&& 1431655765)) &&& 858993459) + ((((a1 - (((a1).toUInt32 >>> ((1 : Int32).toUInt32 &&& Int32.toUInt32 31)).toInt32 &&& 1431655765))).toUInt32 >>> ((2 : Int32).toUInt32 &&& Int32.toUInt32 31)).toInt32 &&& 858993459)) + (((((a1 - (((a1).toUInt32 >>> ((1 : Int32).toUInt32 &&& Int32.toUInt32 31)).toInt32 &&& 1431655765)) &&& 858993459) + ((((a1 - (((a1).toUInt32 >>> ((1 : Int32).toUInt32 &&& Int32.toUInt32 31)).toInt32 &&& 1431655765))).toUInt32 >>> ((2 : Int32).toUInt32 &&& Int32.toUInt32 31)).toInt32 &&& 858993459))).toUInt32 >>> ((4 : Int32).toUInt32 &&& Int32.toUInt32 31)).toInt32) &&& 252645135)).toUInt32 >>> ((8 : Int32).toUInt32 &&& Int32.toUInt32 31)).toInt32))]) hx hb dJ6_bitCount_0f7a4_40 rfl hl (by decide) rfl (fun ls hl => ?_)
  refine lv_iload_n hx hb dJ6_bitCount_0f7a4_41 rfl (lv_at hl 0 rfl) ?_
  refine lv_iload_n hx hb dJ6_bitCount_0f7a4_42 rfl (lv_at hl 0 rfl) ?_
  refine lv_bipush (v := 16) hx hb dJ6_bitCount_0f7a4_43 (by decide) ?_
  refine lv_iushr (v := ((((((((a1 - (((a1).toUInt32 >>> ((1 : Int32).toUInt32 &&& Int32.toUInt32 31)).toInt32 &&& 1431655765)) &&& 858993459) + ((((a1 - (((a1).toUInt32 >>> ((1 : Int32).toUInt32 &&& Int32.toUInt32 31)).toInt32 &&& 1431655765))).toUInt32 >>> ((2 : Int32).toUInt32 &&& Int32.toUInt32 31)).toInt32 &&& 858993459)) + (((((a1 - (((a1).toUInt32 >>> ((1 : Int32).toUInt32 &&& Int32.toUInt32 31)).toInt32 &&& 1431655765)) &&& 858993459) + ((((a1 - (((a1).toUInt32 >>> ((1 : Int32).toUInt32 &&& Int32.toUInt32 31)).toInt32 &&& 1431655765))).toUInt32 >>> ((2 : Int32).toUInt32 &&& Int32.toUInt32 31)).toInt32 &&& 858993459))).toUInt32 >>> ((4 : Int32).toUInt32 &&& Int32.toUInt32 31)).toInt32) &&& 252645135) + (((((((a1 - (((a1).toUInt32 >>> ((1 : Int32).toUInt32 &&& Int32.toUInt32 31)).toInt32 &&& 1431655765)) &&& 858993459) + ((((a1 - (((a1).toUInt32 >>> ((1 : Int32).toUInt32 &&& Int32.toUInt32 31)).toInt32 &&& 1431655765))).toUInt32 >>> ((2 : Int32).toUInt32 &&& Int32.toUInt32 31)).toInt32 &&& 858993459)) + (((((a1 - (((a1).toUInt32 >>> ((1 : Int32).toUInt32 &&& Int32.toUInt32 31)).toInt32 &&& 1431655765)) &&& 858993459) + ((((a1 - (((a1).toUInt32 >>> ((1 : Int32).toUInt32 &&& Int32.toUInt32 31)).toInt32 &&& 1431655765))).toUInt32 >>> ((2 : Int32).toUInt32 &&& Int32.toUInt32 31)).toInt32 &&& 858993459))).toUInt32 >>> ((4 : Int32).toUInt32 &&& Int32.toUInt32 31)).toInt32) &&& 252645135)).toUInt32 >>> ((8 : Int32).toUInt32 &&& Int32.toUInt32 31)).toInt32)).toUInt32 >>> ((16 : Int32).toUInt32 &&& Int32.toUInt32 31)).toInt32) hx hb dJ6_bitCount_0f7a4_45 rfl ?_
  refine lv_iadd hx hb dJ6_bitCount_0f7a4_46 ?_
  refine lv_istore_n (lv' := [(0, .int (((((((a1 - (((a1).toUInt32 >>> ((1 : Int32).toUInt32 &&& Int32.toUInt32 31)).toInt32 &&& 1431655765)) &&& 858993459) + ((((a1 - (((a1).toUInt32 >>> ((1 : Int32).toUInt32 &&& Int32.toUInt32 31)).toInt32 &&& 1431655765))).toUInt32 >>> ((2 : Int32).toUInt32 &&& Int32.toUInt32 31)).toInt32 &&& 858993459)) + (((((a1 - (((a1).toUInt32 >>> ((1 : Int32).toUInt32 &&& Int32.toUInt32 31)).toInt32 &&& 1431655765)) &&& 858993459) + ((((a1 - (((a1).toUInt32 >>> ((1 : Int32).toUInt32 &&& Int32.toUInt32 31)).toInt32 &&& 1431655765))).toUInt32 >>> ((2 : Int32).toUInt32 &&& Int32.toUInt32 31)).toInt32 &&& 858993459))).toUInt32 >>> ((4 : Int32).toUInt32 &&& Int32.toUInt32 31)).toInt32) &&& 252645135) + (((((((a1 - (((a1).toUInt32 >>> ((1 : Int32).toUInt32 &&& Int32.toUInt32 31)).toInt32 &&& 1431655765)) &&& 858993459) + ((((a1 - (((a1).toUInt32 >>> ((1 : Int32).toUInt32 &&& Int32.toUInt32 31)).toInt32 &&& 1431655765))).toUInt32 >>> ((2 : Int32).toUInt32 &&& Int32.toUInt32 31)).toInt32 &&& 858993459)) + (((((a1 - (((a1).toUInt32 >>> ((1 : Int32).toUInt32 &&& Int32.toUInt32 31)).toInt32 &&& 1431655765)) &&& 858993459) + ((((a1 - (((a1).toUInt32 >>> ((1 : Int32).toUInt32 &&& Int32.toUInt32 31)).toInt32 &&& 1431655765))).toUInt32 >>> ((2 : Int32).toUInt32 &&& Int32.toUInt32 31)).toInt32 &&& 858993459))).toUInt32 >>> ((4 : Int32).toUInt32 &&& Int32.toUInt32 31)).toInt32) &&& 252645135)).toUInt32 >>> ((8 : Int32).toUInt32 &&& Int32.toUInt32 31)).toInt32) + ((((((((a1 - (((a1).toUInt32 >>> ((1 : Int32).toUInt32 &&& Int32.toUInt32 31)).toInt32 &&& 1431655765)) &&& 858993459) + ((((a1 - (((a1).toUInt32 >>> ((1 : Int32).toUInt32 &&& Int32.toUInt32 31)).toInt32 &&& 1431655765))).toUInt32 >>> ((2 : Int32).toUInt32 &&& Int32.toUInt32 31)).toInt32 &&& 858993459)) + (((((a1 - (((a1).toUInt32 >>> ((1 : Int32).toUInt32 &&& Int32.toUInt32 31)).toInt32 &&& 1431655765)) &&& 858993459) + ((((a1 - (((a1).toUInt32 >>> ((1 : Int32).toUInt32 &&& Int32.toUInt32 31)).toInt32 &&& 1431655765))).toUInt32 >>> ((2 : Int32).toUInt32 &&& Int32.toUInt32 31)).toInt32 &&& 858993459))).toUInt32 >>> ((4 : Int32).toUInt32 &&& Int32.toUInt32 31)).toInt32) &&& 252645135) + (((((((a1 - (((a1).toUInt32 >>> ((1 : Int32).toUInt32 &&& Int32.toUInt32 31)).toInt32 &&& 1431655765)) &&& 858993459) + ((((a1 - (((a1).toUInt32 >>> ((1 : Int32).toUInt32 &&& Int32.toUInt32 31)).toInt32 &&& 1431655765))).toUInt32 >>> ((2 : Int32).toUInt32 &&& Int32.toUInt32 31)).toInt32 &&& 858993459)) + (((((a1 - (((a1).toUInt32 >>> ((1 : Int32).toUInt32 &&& Int32.toUInt32 31)).toInt32 &&& 1431655765)) &&& 858993459) + ((((a1 - (((a1).toUInt32 >>> ((1 : Int32).toUInt32 &&& Int32.toUInt32 31)).toInt32 &&& 1431655765))).toUInt32 >>> ((2 : Int32).toUInt32 &&& Int32.toUInt32 31)).toInt32 &&& 858993459))).toUInt32 >>> ((4 : Int32).toUInt32 &&& Int32.toUInt32 31)).toInt32) &&& 252645135)).toUInt32 >>> ((8 : Int32).toUInt32 &&& Int32.toUInt32 31)).toInt32)).toUInt32 >>> ((16 : Int32).toUInt32 &&& Int32.toUInt32 31)).toInt32))]) hx hb dJ6_bitCount_0f7a4_47 rfl hl (by decide) rfl (fun ls hl => ?_)
  refine lv_iload_n hx hb dJ6_bitCount_0f7a4_48 rfl (lv_at hl 0 rfl) ?_
  refine lv_bipush (v := 63) hx hb dJ6_bitCount_0f7a4_49 (by decide) ?_
  refine lv_iand hx hb dJ6_bitCount_0f7a4_51 ?_
  have e9 : ((((((((a1 - (((a1).toUInt32 >>> ((1 : Int32).toUInt32 &&& Int32.toUInt32 31)).toInt32 &&& 1431655765)) &&& 858993459) + ((((a1 - (((a1).toUInt32 >>> ((1 : Int32).toUInt32 &&& Int32.toUInt32 31)).toInt32 &&& 1431655765))).toUInt32 >>> ((2 : Int32).toUInt32 &&& Int32.toUInt32 31)).toInt32 &&& 858993459)) + (((((a1 - (((a1).toUInt32 >>> ((1 : Int32).toUInt32 &&& Int32.toUInt32 31)).toInt32 &&& 1431655765)) &&& 858993459) + ((((a1 - (((a1).toUInt32 >>> ((1 : Int32).toUInt32 &&& Int32.toUInt32 31)).toInt32 &&& 1431655765))).toUInt32 >>> ((2 : Int32).toUInt32 &&& Int32.toUInt32 31)).toInt32 &&& 858993459))).toUInt32 >>> ((4 : Int32).toUInt32 &&& Int32.toUInt32 31)).toInt32) &&& 252645135) + (((((((a1 - (((a1).toUInt32 >>> ((1 : Int32).toUInt32 &&& Int32.toUInt32 31)).toInt32 &&& 1431655765)) &&& 858993459) + ((((a1 - (((a1).toUInt32 >>> ((1 : Int32).toUInt32 &&& Int32.toUInt32 31)).toInt32 &&& 1431655765))).toUInt32 >>> ((2 : Int32).toUInt32 &&& Int32.toUInt32 31)).toInt32 &&& 858993459)) + (((((a1 - (((a1).toUInt32 >>> ((1 : Int32).toUInt32 &&& Int32.toUInt32 31)).toInt32 &&& 1431655765)) &&& 858993459) + ((((a1 - (((a1).toUInt32 >>> ((1 : Int32).toUInt32 &&& Int32.toUInt32 31)).toInt32 &&& 1431655765))).toUInt32 >>> ((2 : Int32).toUInt32 &&& Int32.toUInt32 31)).toInt32 &&& 858993459))).toUInt32 >>> ((4 : Int32).toUInt32 &&& Int32.toUInt32 31)).toInt32) &&& 252645135)).toUInt32 >>> ((8 : Int32).toUInt32 &&& Int32.toUInt32 31)).toInt32) + ((((((((a1 - (((a1).toUInt32 >>> ((1 : Int32).toUInt32 &&& Int32.toUInt32 31)).toInt32 &&& 1431655765)) &&& 858993459) + ((((a1 - (((a1).toUInt32 >>> ((1 : Int32).toUInt32 &&& Int32.toUInt32 31)).toInt32 &&& 1431655765))).toUInt32 >>> ((2 : Int32).toUInt32 &&& Int32.toUInt32 31)).toInt32 &&& 858993459)) + (((((a1 - (((a1).toUInt32 >>> ((1 : Int32).toUInt32 &&& Int32.toUInt32 31)).toInt32 &&& 1431655765)) &&& 858993459) + ((((a1 - (((a1).toUInt32 >>> ((1 : Int32).toUInt32 &&& Int32.toUInt32 31)).toInt32 &&& 1431655765))).toUInt32 >>> ((2 : Int32).toUInt32 &&& Int32.toUInt32 31)).toInt32 &&& 858993459))).toUInt32 >>> ((4 : Int32).toUInt32 &&& Int32.toUInt32 31)).toInt32) &&& 252645135) + (((((((a1 - (((a1).toUInt32 >>> ((1 : Int32).toUInt32 &&& Int32.toUInt32 31)).toInt32 &&& 1431655765)) &&& 858993459) + ((((a1 - (((a1).toUInt32 >>> ((1 : Int32).toUInt32 &&& Int32.toUInt32 31)).toInt32 &&& 1431655765))).toUInt32 >>> ((2 : Int32).toUInt32 &&& Int32.toUInt32 31)).toInt32 &&& 858993459)) + (((((a1 - (((a1).toUInt32 >>> ((1 : Int32).toUInt32 &&& Int32.toUInt32 31)).toInt32 &&& 1431655765)) &&& 858993459) + ((((a1 - (((a1).toUInt32 >>> ((1 : Int32).toUInt32 &&& Int32.toUInt32 31)).toInt32 &&& 1431655765))).toUInt32 >>> ((2 : Int32).toUInt32 &&& Int32.toUInt32 31)).toInt32 &&& 858993459))).toUInt32 >>> ((4 : Int32).toUInt32 &&& Int32.toUInt32 31)).toInt32) &&& 252645135)).toUInt32 >>> ((8 : Int32).toUInt32 &&& Int32.toUInt32 31)).toInt32)).toUInt32 >>> ((16 : Int32).toUInt32 &&& Int32.toUInt32 31)).toInt32) &&& 63) = (pJ6_bitCount_0f7a4 a1) := rfl
  exact W.iret (v := ((((((((a1 - (((a1).toUInt32 >>> ((1 : Int32).toUInt32 &&& Int32.toUInt32 31)).toInt32 &&& 1431655765)) &&& 858993459) + ((((a1 - (((a1).toUInt32 >>> ((1 : Int32).toUInt32 &&& Int32.toUInt32 31)).toInt32 &&& 1431655765))).toUInt32 >>> ((2 : Int32).toUInt32 &&& Int32.toUInt32 31)).toInt32 &&& 858993459)) + (((((a1 - (((a1).toUInt32 >>> ((1 : Int32).toUInt32 &&& Int32.toUInt32 31)).toInt32 &&& 1431655765)) &&& 858993459) + ((((a1 - (((a1).toUInt32 >>> ((1 : Int32).toUInt32 &&& Int32.toUInt32 31)).toInt32 &&& 1431655765))).toUInt32 >>> ((2 : Int32).toUInt32 &&& Int32.toUInt32 31)).toInt32 &&& 858993459))).toUInt32 >>> ((4 : Int32).toUInt32 &&& Int32.toUInt32 31)).toInt32) &&& 252645135) + (((((((a1 - (((a1).toUInt32 >>> ((1 : Int32).toUInt32 &&& Int32.toUInt32 31)).toInt32 &&& 1431655765)) &&& 858993459) + ((((a1 - (((a1).toUInt32 >>> ((1 : Int32).toUInt32 &&& Int32.toUInt32 31)).toInt32 &&& 1431655765))).toUInt32 >>> ((2 : Int32).toUInt32 &&& Int32.toUInt32 31)).toInt32 &&& 858993459)) + (((((a1 - (((a1).toUInt32 >>> ((1 : Int32).toUInt32 &&& Int32.toUInt32 31)).toInt32 &&& 1431655765)) &&& 858993459) + ((((a1 - (((a1).toUInt32 >>> ((1 : Int32).toUInt32 &&& Int32.toUInt32 31)).toInt32 &&& 1431655765))).toUInt32 >>> ((2 : Int32).toUInt32 &&& Int32.toUInt32 31)).toInt32 &&& 858993459))).toUInt32 >>> ((4 : Int32).toUInt32 &&& Int32.toUInt32 31)).toInt32) &&& 252645135)).toUInt32 >>> ((8 : Int32).toUInt32 &&& Int32.toUInt32 31)).toInt32) + ((((((((a1 - (((a1).toUInt32 >>> ((1 : Int32).toUInt32 &&& Int32.toUInt32 31)).toInt32 &&& 1431655765)) &&& 858993459) + ((((a1 - (((a1).toUInt32 >>> ((1 : Int32).toUInt32 &&& Int32.toUInt32 31)).toInt32 &&& 1431655765))).toUInt32 >>> ((2 : Int32).toUInt32 &&& Int32.toUInt32 31)).toInt32 &&& 858993459)) + (((((a1 - (((a1).toUInt32 >>> ((1 : Int32).toUInt32 &&& Int32.toUInt32 31)).toInt32 &&& 1431655765)) &&& 858993459) + ((((a1 - (((a1).toUInt32 >>> ((1 : Int32).toUInt32 &&& Int32.toUInt32 31)).toInt32 &&& 1431655765))).toUInt32 >>> ((2 : Int32).toUInt32 &&& Int32.toUInt32 31)).toInt32 &&& 858993459))).toUInt32 >>> ((4 : Int32).toUInt32 &&& Int32.toUInt32 31)).toInt32) &&& 252645135) + (((((((a1 - (((a1).toUInt32 >>> ((1 : Int32).toUInt32 &&& Int32.toUInt32 31)).toInt32 &&& 1431655765)) &&& 858993459) + ((((a1 - (((a1).toUInt32 >>> ((1 : Int32).toUInt32 &&& Int32.toUInt32 31)).toInt32 &&& 1431655765))).toUInt32 >>> ((2 : Int32).toUInt32 &&& Int32.toUInt32 31)).toInt32 &&& 858993459)) + (((((a1 - (((a1).toUInt32 >>> ((1 : Int32).toUInt32 &&& Int32.toUInt32 31)).toInt32 &&& 1431655765)) &&& 858993459) + ((((a1 - (((a1).toUInt32 >>> ((1 : Int32).toUInt32 &&& Int32.toUInt32 31)).toInt32 &&& 1431655765))).toUInt32 >>> ((2 : Int32).toUInt32 &&& Int32.toUInt32 31)).toInt32 &&& 858993459))).toUInt32 >>> ((4 : Int32).toUInt32 &&& Int32.toUInt32 31)).toInt32) &&& 252645135)).toUInt32 >>> ((8 : Int32).toUInt32 &&& Int32.toUInt32 31)).toInt32)).toUInt32 >>> ((16 : Int32).toUInt32 &&& Int32.toUInt32 31)).toInt32) &&& 63)) hx hb hr (fun t ht hW => ⟨_, rfl, e9, ht⟩) (fun _ h => absurd h List.not_mem_nil) dJ6_bitCount_0f7a4_52
theorem bS_J6_bitCount_0f7a4 : BS yJ6_bitCount_0f7a4 cJ6_bitCount_0f7a4 1 (some .int) 1 := ⟨wcd_J6_bitCount_0f7a4, wst_J6_bitCount_0f7a4, win_RJ6, by decide +kernel⟩
def pJ9_max_7cf53 (a1 : Int32) (a2 : Int32) : Int32 := (if a1 < a2 then a2 else a1)
set_option maxHeartbeats 4000000 in
set_option maxRecDepth 100000 in
theorem kJ9_max_7cf53 (l : Launch) (D : va_G) (cyC cyI cyO : ClassId) (a1 : Int32) (a2 : Int32) : RO l yJ9_max_7cf53 (Ty yJ9_max_7cf53 cJ9_max_7cf53 2 (some .int)) ({ frames := 0, cells := 0, slots := 0, locals := 0 } : Room) D cyC cyI cyO [] [.int a1, .int a2] (pJ9_max_7cf53 a1 a2) := by
  refine Met.ofW (cc := cJ9_max_7cf53) (maxL := 2) (ret := (some .int)) (by decide) rfl ?_
  intro p e s m args below meth cd s₁ B hml hv
  obtain ⟨rfl, hP, hK⟩ := hv
  have hx := B.exec
  have hb := B.bytes
  have hr := B.returns
  have hts : ∀ w ∈ TB, w.before ([.int a1, .int a2] : List Value).toArray s = true := fun w h => atoms_spec (ws := (Ty yJ9_max_7cf53 cJ9_max_7cf53 2 (some .int))) B.pre w (List.mem_cons_of_mem _ h)
  have hown : s.vm.findClass RJ9 = some m.cls := findClass_of_methodNamed B.named
  have hlocks := B.notSynchronized
  have hl := lv_entry ([.int a1, .int a2]) (n := 2) (Nat.le_of_ble_eq_true rfl)
  rw [lg_entry_eq]
  generalize (lg_sl ([.int a1, .int a2]) ++ List.replicate (2 - (lg_sl ([.int a1, .int a2])).length) Slot.unset).toArray = ls at hl ⊢
  have hl : lv_has ls 2 [(0, .int a1), (1, .int a2)] := hl
  refine lv_iload_n hx hb dJ9_max_7cf53_0 rfl (lv_at hl 0 rfl) ?_
  refine lv_iload_n hx hb dJ9_max_7cf53_1 rfl (lv_at hl 1 rfl) ?_
  refine lv_icmp_lt (tgt := 9) hx hb dJ9_max_7cf53_2 (by decide) (fun c_1 => ?_) (fun c_1 => ?_)
  · refine lv_iload_n hx hb dJ9_max_7cf53_9 rfl (lv_at hl 1 rfl) ?_
    have e9 : a2 = (pJ9_max_7cf53 a1 a2) := by simp only [pJ9_max_7cf53, if_pos c_1]
    exact W.iret (v := a2) hx hb hr (fun t ht hW => ⟨_, rfl, e9, ht⟩) (fun _ h => absurd h List.not_mem_nil) dJ9_max_7cf53_10
  · refine lv_iload_n hx hb dJ9_max_7cf53_5 rfl (lv_at hl 0 rfl) ?_
    refine lv_goto (tgt := 10) hx hb dJ9_max_7cf53_6 (by decide) ?_
    have e9 : a1 = (pJ9_max_7cf53 a1 a2) := by simp only [pJ9_max_7cf53, if_neg c_1]
    exact W.iret (v := a1) hx hb hr (fun t ht hW => ⟨_, rfl, e9, ht⟩) (fun _ h => absurd h List.not_mem_nil) dJ9_max_7cf53_10
theorem bS_J9_max_7cf53 : BS yJ9_max_7cf53 cJ9_max_7cf53 2 (some .int) 2 := ⟨wcd_J9_max_7cf53, wst_J9_max_7cf53, win_RJ9, by decide +kernel⟩
def pJ9_min_7cf53 (a1 : Int32) (a2 : Int32) : Int32 := (if a2 < a1 then a2 else a1)
set_option maxHeartbeats 4000000 in
set_option maxRecDepth 100000 in
theorem kJ9_min_7cf53 (l : Launch) (D : va_G) (cyC cyI cyO : ClassId) (a1 : Int32) (a2 : Int32) : RO l yJ9_min_7cf53 (Ty yJ9_min_7cf53 cJ9_min_7cf53 2 (some .int)) ({ frames := 0, cells := 0, slots := 0, locals := 0 } : Room) D cyC cyI cyO [] [.int a1, .int a2] (pJ9_min_7cf53 a1 a2) := by
  refine Met.ofW (cc := cJ9_min_7cf53) (maxL := 2) (ret := (some .int)) (by decide) rfl ?_
  intro p e s m args below meth cd s₁ B hml hv
  obtain ⟨rfl, hP, hK⟩ := hv
  have hx := B.exec
  have hb := B.bytes
  have hr := B.returns
  have hts : ∀ w ∈ TB, w.before ([.int a1, .int a2] : List Value).toArray s = true := fun w h => atoms_spec (ws := (Ty yJ9_min_7cf53 cJ9_min_7cf53 2 (some .int))) B.pre w (List.mem_cons_of_mem _ h)
  have hown : s.vm.findClass RJ9 = some m.cls := findClass_of_methodNamed B.named
  have hlocks := B.notSynchronized
  have hl := lv_entry ([.int a1, .int a2]) (n := 2) (Nat.le_of_ble_eq_true rfl)
  rw [lg_entry_eq]
  generalize (lg_sl ([.int a1, .int a2]) ++ List.replicate (2 - (lg_sl ([.int a1, .int a2])).length) Slot.unset).toArray = ls at hl ⊢
  have hl : lv_has ls 2 [(0, .int a1), (1, .int a2)] := hl
  refine lv_iload_n hx hb dJ9_min_7cf53_0 rfl (lv_at hl 0 rfl) ?_
  refine lv_iload_n hx hb dJ9_min_7cf53_1 rfl (lv_at hl 1 rfl) ?_
  refine lv_icmp_gt (tgt := 9) hx hb dJ9_min_7cf53_2 (by decide) (fun c_1 => ?_) (fun c_1 => ?_)
  · refine lv_iload_n hx hb dJ9_min_7cf53_9 rfl (lv_at hl 1 rfl) ?_
    have e9 : a2 = (pJ9_min_7cf53 a1 a2) := by simp only [pJ9_min_7cf53, if_pos c_1]
    exact W.iret (v := a2) hx hb hr (fun t ht hW => ⟨_, rfl, e9, ht⟩) (fun _ h => absurd h List.not_mem_nil) dJ9_min_7cf53_10
  · refine lv_iload_n hx hb dJ9_min_7cf53_5 rfl (lv_at hl 0 rfl) ?_
    refine lv_goto (tgt := 10) hx hb dJ9_min_7cf53_6 (by decide) ?_
    have e9 : a1 = (pJ9_min_7cf53 a1 a2) := by simp only [pJ9_min_7cf53, if_neg c_1]
    exact W.iret (v := a1) hx hb hr (fun t ht hW => ⟨_, rfl, e9, ht⟩) (fun _ h => absurd h List.not_mem_nil) dJ9_min_7cf53_10
theorem bS_J9_min_7cf53 : BS yJ9_min_7cf53 cJ9_min_7cf53 2 (some .int) 2 := ⟨wcd_J9_min_7cf53, wst_J9_min_7cf53, win_RJ9, by decide +kernel⟩
def pX0_hasLine (u : (Nat → Nat → Int32)) (w : (Nat → Int32)) (a1 : Int32) : Int32 := (if ((u 1) (a1).toNatClampNeg) = (-1) then 0 else 1)
set_option maxHeartbeats 4000000 in
set_option maxRecDepth 100000 in
theorem kX0_hasLine (l : Launch) (D : va_G) (cyC cyI cyO : ClassId) (A : Nat → Nat) (u : (Nat → Nat → Int32)) (w : (Nat → Int32)) (a1 : Int32) (h1 : vp_in a1 28) : RO l yX0_hasLine (Ty yX0_hasLine cX0_hasLine 2 (some .boolean)) ({ frames := 0, cells := 0, slots := 0, locals := 0 } : Room) D cyC cyI cyO (wC cyI A u w) [.ref (A 0), .int a1] (pX0_hasLine u w a1) := by
  refine Met.ofW (cc := cX0_hasLine) (maxL := 2) (ret := (some .boolean)) (by decide) rfl ?_
  intro p e s m args below meth cd s₁ B hml hv
  obtain ⟨rfl, hP, hK⟩ := hv
  have hx := B.exec
  have hb := B.bytes
  have hr := B.returns
  have hts : ∀ w ∈ TB, w.before ([.ref (A 0), .int a1] : List Value).toArray s = true := fun w h => atoms_spec (ws := (Ty yX0_hasLine cX0_hasLine 2 (some .boolean))) B.pre w (List.mem_cons_of_mem _ h)
  have hown : s.vm.findClass RX0 = some m.cls := findClass_of_methodNamed B.named
  have hlocks := B.notSynchronized
  have hl := lv_entry ([.ref (A 0), .int a1]) (n := 2) (Nat.le_of_ble_eq_true rfl)
  rw [lg_entry_eq]
  generalize (lg_sl ([.ref (A 0), .int a1]) ++ List.replicate (2 - (lg_sl ([.ref (A 0), .int a1])).length) Slot.unset).toArray = ls at hl ⊢
  have hl : lv_has ls 2 [(0, .ref (A 0)), (1, .int a1)] := hl
  refine lv_aload_n hx hb dX0_hasLine_0 rfl (lv_at hl 0 rfl) ?_
  refine va_get (D := D) (ci := 0) (v := .ref (A 2)) (C := RX0) (T := TX0) (N := 19) hx hb hts inT_X0 hown hK.1 hP 0 rfl rfl 1 (by decide) (hts _ wfl_RX0_15) (fun _ h9 => h9) rfl dX0_hasLine_1 ?_
  refine lv_iload_n hx hb dX0_hasLine_4 rfl (lv_at hl 1 rfl) ?_
  refine va_iald (D := D) (f := (u 1)) hx hb hK.1 hP 2 1 rfl rfl h1 dX0_hasLine_5 ?_
  refine lv_iconst (v := (-1)) hx hb dX0_hasLine_6 (by decide) ?_
  refine lv_icmp_eq (tgt := 14) hx hb dX0_hasLine_7 (by decide) (fun c_1 => ?_) (fun c_1 => ?_)
  · refine lv_iconst (v := 0) hx hb dX0_hasLine_14 (by decide) ?_
    have e9 : 0 = (pX0_hasLine u w a1) := by simp only [pX0_hasLine, if_pos c_1]
    exact W.zret (ty := .boolean) (v := 0) hx hb hr (by rfl) (fun t ht hW => ⟨_, rfl, e9, ht⟩) (fun _ h => absurd h List.not_mem_nil) dX0_hasLine_15
  · refine lv_iconst (v := 1) hx hb dX0_hasLine_10 (by decide) ?_
    refine lv_goto (tgt := 15) hx hb dX0_hasLine_11 (by decide) ?_
    have e9 : 1 = (pX0_hasLine u w a1) := by simp only [pX0_hasLine, if_neg c_1]
    exact W.zret (ty := .boolean) (v := 1) hx hb hr (by rfl) (fun t ht hW => ⟨_, rfl, e9, ht⟩) (fun _ h => absurd h List.not_mem_nil) dX0_hasLine_15
theorem z_X0_hasLine (u : (Nat → Nat → Int32)) (w : (Nat → Int32)) (a1 : Int32) : (pX0_hasLine u w a1) = 0 ∨ (pX0_hasLine u w a1) = 1 := by
  unfold pX0_hasLine
  (repeat' split) <;> first | exact Or.inl rfl | exact Or.inr rfl
theorem bV_X0_hasLine : BV RX0 yX0_hasLine cX0_hasLine 2 (some .boolean) 1 := ⟨wcd_X0_hasLine, wim_X0_hasLine, wse_X0_hasLine, win_RX0, by decide +kernel⟩
def pX0_isThere (u : (Nat → Nat → Int32)) (w : (Nat → Int32)) (a1 : Int32) : Int32 := (if ((u 0) (a1).toNatClampNeg) ≤ 0 then 0 else 1)
set_option maxHeartbeats 4000000 in
set_option maxRecDepth 100000 in
theorem kX0_isThere (l : Launch) (D : va_G) (cyC cyI cyO : ClassId) (A : Nat → Nat) (u : (Nat → Nat → Int32)) (w : (Nat → Int32)) (a1 : Int32) (h1 : vp_in a1 28) : RO l yX0_isThere (Ty yX0_isThere cX0_isThere 2 (some .boolean)) ({ frames := 0, cells := 0, slots := 0, locals := 0 } : Room) D cyC cyI cyO (wC cyI A u w) [.ref (A 0), .int a1] (pX0_isThere u w a1) := by
  refine Met.ofW (cc := cX0_isThere) (maxL := 2) (ret := (some .boolean)) (by decide) rfl ?_
  intro p e s m args below meth cd s₁ B hml hv
  obtain ⟨rfl, hP, hK⟩ := hv
  have hx := B.exec
  have hb := B.bytes
  have hr := B.returns
  have hts : ∀ w ∈ TB, w.before ([.ref (A 0), .int a1] : List Value).toArray s = true := fun w h => atoms_spec (ws := (Ty yX0_isThere cX0_isThere 2 (some .boolean))) B.pre w (List.mem_cons_of_mem _ h)
  have hown : s.vm.findClass RX0 = some m.cls := findClass_of_methodNamed B.named
  have hlocks := B.notSynchronized
  have hl := lv_entry ([.ref (A 0), .int a1]) (n := 2) (Nat.le_of_ble_eq_true rfl)
  rw [lg_entry_eq]
  generalize (lg_sl ([.ref (A 0), .int a1]) ++ List.replicate (2 - (lg_sl ([.ref (A 0), .int a1])).length) Slot.unset).toArray = ls at hl ⊢
  have hl : lv_has ls 2 [(0, .ref (A 0)), (1, .int a1)] := hl
  refine lv_aload_n hx hb dX0_isThere_0 rfl (lv_at hl 0 rfl) ?_
  refine va_get (D := D) (ci := 0) (v := .ref (A 1)) (C := RX0) (T := TX0) (N := 19) hx hb hts inT_X0 hown hK.1 hP 0 rfl rfl 0 (by decide) (hts _ wfl_RX0_9) (fun _ h9 => h9) rfl dX0_isThere_1 ?_
  refine lv_iload_n hx hb dX0_isThere_4 rfl (lv_at hl 1 rfl) ?_
  refine va_iald (D := D) (f := (u 0)) hx hb hK.1 hP 1 1 rfl rfl h1 dX0_isThere_5 ?_
  refine lv_if_le (tgt := 13) hx hb dX0_isThere_6 (by decide) (fun c_1 => ?_) (fun c_1 => ?_)
  · refine lv_iconst (v := 0) hx hb dX0_isThere_13 (by decide) ?_
    have e9 : 0 = (pX0_isThere u w a1) := by simp only [pX0_isThere, if_pos c_1]
    exact W.zret (ty := .boolean) (v := 0) hx hb hr (by rfl) (fun t ht hW => ⟨_, rfl, e9, ht⟩) (fun _ h => absurd h List.not_mem_nil) dX0_isThere_14
  · refine lv_iconst (v := 1) hx hb dX0_isThere_9 (by decide) ?_
    refine lv_goto (tgt := 14) hx hb dX0_isThere_10 (by decide) ?_
    have e9 : 1 = (pX0_isThere u w a1) := by simp only [pX0_isThere, if_neg c_1]
    exact W.zret (ty := .boolean) (v := 1) hx hb hr (by rfl) (fun t ht hW => ⟨_, rfl, e9, ht⟩) (fun _ h => absurd h List.not_mem_nil) dX0_isThere_14
theorem z_X0_isThere (u : (Nat → Nat → Int32)) (w : (Nat → Int32)) (a1 : Int32) : (pX0_isThere u w a1) = 0 ∨ (pX0_isThere u w a1) = 1 := by
  unfold pX0_isThere
  (repeat' split) <;> first | exact Or.inl rfl | exact Or.inr rfl
theorem bV_X0_isThere : BV RX0 yX0_isThere cX0_isThere 2 (some .boolean) 1 := ⟨wcd_X0_isThere, wim_X0_isThere, wse_X0_isThere, win_RX0, by decide +kernel⟩
def pX0_allLines_L4 (u : (Nat → Nat → Int32)) (w : (Nat → Int32)) : Nat → Int32 := fo (fun i x_i => (if (pX0_hasLine u w (nI i)) = 0 then x_i else (x_i ||| (1 <<< ((nI i) &&& 31))))) 0
theorem pX0_allLines_L4_s (u : (Nat → Nat → Int32)) (w : (Nat → Int32)) (i : Nat) : pX0_allLines_L4 u w (i + 1) = (if (pX0_hasLine u w (nI i)) = 0 then (pX0_allLines_L4 u w i) else ((pX0_allLines_L4 u w i) ||| (1 <<< ((nI i) &&& 31)))) := rfl
def pX0_allLines (u : (Nat → Nat → Int32)) (w : (Nat → Int32)) : Int32 := (pX0_allLines_L4 u w 28)
set_option maxHeartbeats 4000000 in
set_option maxRecDepth 100000 in
theorem kX0_allLines (l : Launch) (D : va_G) (cyC cyI cyO : ClassId) (A : Nat → Nat) (u : (Nat → Nat → Int32)) (w : (Nat → Int32)) : RO l yX0_allLines (Ty yX0_allLines cX0_allLines 3 (some .int)) ({ frames := 1, cells := 0, slots := 0, locals := 21 } : Room) D cyC cyI cyO (wC cyI A u w) [.ref (A 0)] (pX0_allLines u w) := by
  refine Met.ofW (cc := cX0_allLines) (maxL := 3) (ret := (some .int)) (by decide) rfl ?_
  intro p e s m args below meth cd s₁ B hml hv
  obtain ⟨rfl, hP, hK⟩ := hv
  have hx := B.exec
  have hb := B.bytes
  have hr := B.returns
  have hts : ∀ w ∈ TB, w.before ([.ref (A 0)] : List Value).toArray s = true := fun w h => atoms_spec (ws := (Ty yX0_allLines cX0_allLines 3 (some .int))) B.pre w (List.mem_cons_of_mem _ h)
  have hown : s.vm.findClass RX0 = some m.cls := findClass_of_methodNamed B.named
  have hlocks := B.notSynchronized
  have hl := lv_entry ([.ref (A 0)]) (n := 3) (Nat.le_of_ble_eq_true rfl)
  rw [lg_entry_eq]
  generalize (lg_sl ([.ref (A 0)]) ++ List.replicate (3 - (lg_sl ([.ref (A 0)])).length) Slot.unset).toArray = ls at hl ⊢
  have hl : lv_has ls 3 [(0, .ref (A 0))] := hl
  refine lv_iconst (v := 0) hx hb dX0_allLines_0 (by decide) ?_
  refine lv_istore_n (lv' := [(1, .int 0), (0, .ref (A 0))]) hx hb dX0_allLines_1 rfl hl (by decide) rfl (fun ls hl => ?_)
  refine lv_iconst (v := 0) hx hb dX0_allLines_2 (by decide) ?_
  refine lv_istore_n (lv' := [(2, .int 0), (1, .int 0), (0, .ref (A 0))]) hx hb dX0_allLines_3 rfl hl (by decide) rfl (fun ls hl => ?_)
  have key_4 : ∀ k i : Nat, i + k = 28 → ∀ (ls : Array Slot), lv_has ls 3 [(0, .ref (A 0)), (1, .int (pX0_allLines_L4 u w i)), (2, .int (nI i))] → W p l e (headSpec (Ty yX0_allLines cX0_allLines 3 (some .int)) ({ frames := 1, cells := 0, slots := 0, locals := 21 } : Room)).room s m ([.ref (A 0)] : List Value).toArray below meth cd s.heap [] 0 0 (MQ below (vp_Si (fun x => x = (pX0_allLines u w))) ([.ref (A 0)] : List Value).toArray s 0 0 (fun _ => False)) (F0 m 4 ls []) := by
    intro k
    induction k with
    | zero =>
      intro i hi ls hl
      obtain rfl : i = 28 := hi
      refine lv_iload_n hx hb dX0_allLines_4 rfl (lv_at hl 2 rfl) ?_
      refine lv_bipush (v := 28) hx hb dX0_allLines_5 (by decide) ?_
      refine lv_icmp_ge (tgt := 30) hx hb dX0_allLines_7 (by decide) (fun c_1 => ?_) (fun c_1 => absurd (le_of (C := 28) (N := 28) (by decide)) c_1)
      refine lv_iload_n hx hb dX0_allLines_30 rfl (lv_at hl 1 rfl) ?_
      have e9 : (pX0_allLines_L4 u w 28) = (pX0_allLines u w) := rfl
      exact W.iret (v := (pX0_allLines_L4 u w 28)) hx hb hr (fun t ht hW => ⟨_, rfl, e9, ht⟩) (fun _ h => absurd h List.not_mem_nil) dX0_allLines_31
    | succ k ih_4 =>
      intro i hi ls hl
      have hlt : i < 28 := by omega
      refine lv_iload_n hx hb dX0_allLines_4 rfl (lv_at hl 2 rfl) ?_
      refine lv_bipush (v := 28) hx hb dX0_allLines_5 (by decide) ?_
      refine lv_icmp_ge (tgt := 30) hx hb dX0_allLines_7 (by decide) (fun c_2 => absurd c_2 (nle_of (C := 28) (N := 28) (by decide) hlt (by decide))) (fun c_2 => ?_)
      refine lv_aload_n hx hb dX0_allLines_10 rfl (lv_at hl 0 rfl) ?_
      refine lv_iload_n hx hb dX0_allLines_11 rfl (lv_at hl 2 rfl) ?_
      refine rV (As := [.int (nI i)]) (rest := []) hx hb hml hown hts hl.1 (kX0_hasLine l D cyC cyI cyO A u w (nI i) (vp_in_nI (Nat.lt_of_lt_of_le hlt (by decide)) (by decide))) bV_X0_hasLine  wml_RX0_89 ⟨rfl, rfl⟩ ⟨Nat.le_of_ble_eq_true rfl, Nat.le_of_ble_eq_true rfl, Nat.zero_le _, Nat.zero_le _⟩ [0, 1, 2, 3, 4, 5, 6, 7, 8] rfl hP hK 0 rfl rfl rfl rfl rfl (Nat.le_of_ble_eq_true rfl) dX0_allLines_12 ?_
      refine lv_if_eq (tgt := 24) hx hb dX0_allLines_15 (by decide) (fun c_3 => ?_) (fun c_3 => ?_)
      · refine lv_iinc (v := (nI (i + 1))) (lv' := [(2, .int (nI (i + 1))), (0, .ref (A 0)), (1, .int (pX0_allLines_L4 u w i))]) hx hb dX0_allLines_24 hl (k := 2) rfl (nI_succ i).symm (by decide) rfl (fun ls hl => ?_)
        refine lv_goto (tgt := 4) hx hb dX0_allLines_27 (by decide) ?_
        have e8 : pX0_allLines_L4 u w (i + 1) = (pX0_allLines_L4 u w i) := by rw [pX0_allLines_L4_s]; simp only [if_pos c_3]
        exact ih_4 (i + 1) (by omega) ls (by rw [e8]; exact lv_sub hl [1, 2, 0] rfl)
      · refine lv_iload_n hx hb dX0_allLines_18 rfl (lv_at hl 1 rfl) ?_
        refine lv_iconst (v := 1) hx hb dX0_allLines_19 (by decide) ?_
        refine lv_iload_n hx hb dX0_allLines_20 rfl (lv_at hl 2 rfl) ?_
        refine lv_ishl hx hb dX0_allLines_21 ?_
        refine lv_ior hx hb dX0_allLines_22 ?_
        refine lv_istore_n (lv' := [(1, .int ((pX0_allLines_L4 u w i) ||| (1 <<< ((nI i) &&& 31)))), (0, .ref (A 0)), (2, .int (nI i))]) hx hb dX0_allLines_23 rfl hl (by decide) rfl (fun ls hl => ?_)
        refine lv_iinc (v := (nI (i + 1))) (lv' := [(2, .int (nI (i + 1))), (1, .int ((pX0_allLines_L4 u w i) ||| (1 <<< ((nI i) &&& 31)))), (0, .ref (A 0))]) hx hb dX0_allLines_24 hl (k := 2) rfl (nI_succ i).symm (by decide) rfl (fun ls hl => ?_)
        refine lv_goto (tgt := 4) hx hb dX0_allLines_27 (by decide) ?_
        have e8 : pX0_allLines_L4 u w (i + 1) = ((pX0_allLines_L4 u w i) ||| (1 <<< ((nI i) &&& 31))) := by rw [pX0_allLines_L4_s]; simp only [if_neg c_3]
        exact ih_4 (i + 1) (by omega) ls (by rw [e8]; exact lv_sub hl [2, 1, 0] rfl)
  exact key_4 28 0 (Nat.zero_add 28) ls (lv_sub hl [2, 1, 0] rfl)
theorem bV_X0_allLines : BV RX0 yX0_allLines cX0_allLines 3 (some .int) 0 := ⟨wcd_X0_allLines, wim_X0_allLines, wse_X0_allLines, win_RX0, by decide +kernel⟩
end
