/-! the text of the characters that may be typed: String.indexOf on it; PostChain.type -/
abbrev M_S_ix1 : gx_M := (⟨"java/lang/String", "indexOf", "(I)I"⟩, prog_18_method_79_code, 2, some .int)
theorem co_S_ix1 : Cond.code M_S_ix1.1 M_S_ix1.2.1 M_S_ix1.2.2.1 M_S_ix1.2.2.2 ∈ gx_T := gx_T_in (List.mem_append_right _ (show _ ∈ tables_1 from (List.mem_append_right _ (List.mem_append_right _ (List.mem_append_left _ (List.mem_of_getElem? (i := 24) (by decide +kernel))))))) (by decide +kernel)
theorem im_S_ix1 : Cond.instanceMethod M_S_ix1.1 ∈ gx_T := gx_T_in (List.mem_append_right _ (show _ ∈ tables_1 from (List.mem_append_right _ (List.mem_append_right _ (List.mem_append_left _ (List.mem_of_getElem? (i := 22) (by decide +kernel))))))) (by decide +kernel)
theorem se_S_ix1 : Cond.selects "java/lang/String" M_S_ix1.1 M_S_ix1.1 ∈ gx_T := gx_T_in (List.mem_append_right _ (show _ ∈ tables_1 from (List.mem_append_right _ (List.mem_append_right _ (List.mem_append_left _ (List.mem_of_getElem? (i := 23) (by decide +kernel))))))) (by decide +kernel)
theorem d_S_ix1_0 : decode prog_18_method_79_code 0 = .ok (.aload_n 0, 1) := by decide +kernel
theorem d_S_ix1_1 : decode prog_18_method_79_code 1 = .ok (.iload_n 1, 1) := by decide +kernel
theorem d_S_ix1_2 : decode prog_18_method_79_code 2 = .ok (.iconst 0, 1) := by decide +kernel
theorem d_S_ix1_3 : decode prog_18_method_79_code 3 = .ok (.invokevirtual 633, 3) := by decide +kernel
theorem d_S_ix1_6 : decode prog_18_method_79_code 6 = .ok (.ireturn, 1) := by decide +kernel
abbrev M_S_ix2 : gx_M := (⟨"java/lang/String", "indexOf", "(II)I"⟩, prog_18_method_80_code, 3, some .int)
theorem co_S_ix2 : Cond.code M_S_ix2.1 M_S_ix2.2.1 M_S_ix2.2.2.1 M_S_ix2.2.2.2 ∈ gx_T := gx_T_in (List.mem_append_right _ (show _ ∈ tables_1 from (List.mem_append_right _ (List.mem_append_right _ (List.mem_append_left _ (List.mem_of_getElem? (i := 28) (by decide +kernel))))))) (by decide +kernel)
theorem im_S_ix2 : Cond.instanceMethod M_S_ix2.1 ∈ gx_T := gx_T_in (List.mem_append_right _ (show _ ∈ tables_1 from (List.mem_append_right _ (List.mem_append_right _ (List.mem_append_left _ (List.mem_of_getElem? (i := 26) (by decide +kernel))))))) (by decide +kernel)
theorem se_S_ix2 : Cond.selects "java/lang/String" M_S_ix2.1 M_S_ix2.1 ∈ gx_T := gx_T_in (List.mem_append_right _ (show _ ∈ tables_1 from (List.mem_append_right _ (List.mem_append_right _ (List.mem_append_left _ (List.mem_of_getElem? (i := 27) (by decide +kernel))))))) (by decide +kernel)
theorem d_S_ix2_0 : decode prog_18_method_80_code 0 = .ok (.aload_n 0, 1) := by decide +kernel
theorem d_S_ix2_1 : decode prog_18_method_80_code 1 = .ok (.invokevirtual 492, 3) := by decide +kernel
theorem d_S_ix2_4 : decode prog_18_method_80_code 4 = .ok (.ifCond .eq 19, 3) := by decide +kernel
theorem d_S_ix2_7 : decode prog_18_method_80_code 7 = .ok (.aload_n 0, 1) := by decide +kernel
theorem d_S_ix2_8 : decode prog_18_method_80_code 8 = .ok (.getfield 9, 3) := by decide +kernel
theorem d_S_ix2_11 : decode prog_18_method_80_code 11 = .ok (.iload_n 1, 1) := by decide +kernel
theorem d_S_ix2_12 : decode prog_18_method_80_code 12 = .ok (.iload_n 2, 1) := by decide +kernel
theorem d_S_ix2_13 : decode prog_18_method_80_code 13 = .ok (.aload_n 0, 1) := by decide +kernel
theorem d_S_ix2_14 : decode prog_18_method_80_code 14 = .ok (.invokevirtual 505, 3) := by decide +kernel
theorem d_S_ix2_17 : decode prog_18_method_80_code 17 = .ok (.invokestatic 637, 3) := by decide +kernel
theorem d_S_ix2_20 : decode prog_18_method_80_code 20 = .ok (.goto 16, 3) := by decide +kernel
theorem d_S_ix2_23 : decode prog_18_method_80_code 23 = .ok (.aload_n 0, 1) := by decide +kernel
theorem d_S_ix2_24 : decode prog_18_method_80_code 24 = .ok (.getfield 9, 3) := by decide +kernel
theorem d_S_ix2_27 : decode prog_18_method_80_code 27 = .ok (.iload_n 1, 1) := by decide +kernel
theorem d_S_ix2_28 : decode prog_18_method_80_code 28 = .ok (.iload_n 2, 1) := by decide +kernel
theorem d_S_ix2_29 : decode prog_18_method_80_code 29 = .ok (.aload_n 0, 1) := by decide +kernel
theorem d_S_ix2_30 : decode prog_18_method_80_code 30 = .ok (.invokevirtual 505, 3) := by decide +kernel
theorem d_S_ix2_33 : decode prog_18_method_80_code 33 = .ok (.invokestatic 640, 3) := by decide +kernel
theorem d_S_ix2_36 : decode prog_18_method_80_code 36 = .ok (.ireturn, 1) := by decide +kernel
abbrev M_S_lat : gx_M := (⟨"java/lang/String", "isLatin1", "()Z"⟩, prog_18_method_154_code, 1, some .boolean)
theorem co_S_lat : Cond.code M_S_lat.1 M_S_lat.2.1 M_S_lat.2.2.1 M_S_lat.2.2.2 ∈ gx_T := gx_T_in (List.mem_append_right _ (show _ ∈ tables_1 from (List.mem_append_right _ (List.mem_append_right _ (List.mem_append_left _ (List.mem_of_getElem? (i := 32) (by decide +kernel))))))) (by decide +kernel)
theorem im_S_lat : Cond.instanceMethod M_S_lat.1 ∈ gx_T := gx_T_in (List.mem_append_right _ (show _ ∈ tables_1 from (List.mem_append_right _ (List.mem_append_right _ (List.mem_append_left _ (List.mem_of_getElem? (i := 30) (by decide +kernel))))))) (by decide +kernel)
theorem se_S_lat : Cond.selects "java/lang/String" M_S_lat.1 M_S_lat.1 ∈ gx_T := gx_T_in (List.mem_append_right _ (show _ ∈ tables_1 from (List.mem_append_right _ (List.mem_append_right _ (List.mem_append_left _ (List.mem_of_getElem? (i := 31) (by decide +kernel))))))) (by decide +kernel)
theorem d_S_lat_0 : decode prog_18_method_154_code 0 = .ok (.getstatic 38, 3) := by decide +kernel
theorem d_S_lat_3 : decode prog_18_method_154_code 3 = .ok (.ifCond .eq 14, 3) := by decide +kernel
theorem d_S_lat_6 : decode prog_18_method_154_code 6 = .ok (.aload_n 0, 1) := by decide +kernel
theorem d_S_lat_7 : decode prog_18_method_154_code 7 = .ok (.getfield 15, 3) := by decide +kernel
theorem d_S_lat_10 : decode prog_18_method_154_code 10 = .ok (.ifCond .ne 7, 3) := by decide +kernel
theorem d_S_lat_13 : decode prog_18_method_154_code 13 = .ok (.iconst 1, 1) := by decide +kernel
theorem d_S_lat_14 : decode prog_18_method_154_code 14 = .ok (.goto 4, 3) := by decide +kernel
theorem d_S_lat_17 : decode prog_18_method_154_code 17 = .ok (.iconst 0, 1) := by decide +kernel
theorem d_S_lat_18 : decode prog_18_method_154_code 18 = .ok (.ireturn, 1) := by decide +kernel
abbrev M_S_len : gx_M := (⟨"java/lang/String", "length", "()I"⟩, prog_18_method_54_code, 1, some .int)
theorem co_S_len : Cond.code M_S_len.1 M_S_len.2.1 M_S_len.2.2.1 M_S_len.2.2.2 ∈ gx_T := gx_T_in (List.mem_append_right _ (show _ ∈ tables_1 from (List.mem_append_right _ (List.mem_append_right _ (List.mem_append_left _ (List.mem_of_getElem? (i := 38) (by decide +kernel))))))) (by decide +kernel)
theorem im_S_len : Cond.instanceMethod M_S_len.1 ∈ gx_T := gx_T_in (List.mem_append_right _ (show _ ∈ tables_1 from (List.mem_append_right _ (List.mem_append_right _ (List.mem_append_left _ (List.mem_of_getElem? (i := 36) (by decide +kernel))))))) (by decide +kernel)
theorem se_S_len : Cond.selects "java/lang/String" M_S_len.1 M_S_len.1 ∈ gx_T := gx_T_in (List.mem_append_right _ (show _ ∈ tables_1 from (List.mem_append_right _ (List.mem_append_right _ (List.mem_append_left _ (List.mem_of_getElem? (i := 37) (by decide +kernel))))))) (by decide +kernel)
theorem d_S_len_0 : decode prog_18_method_54_code 0 = .ok (.aload_n 0, 1) := by decide +kernel
theorem d_S_len_1 : decode prog_18_method_54_code 1 = .ok (.getfield 9, 3) := by decide +kernel
theorem d_S_len_4 : decode prog_18_method_54_code 4 = .ok (.arraylength, 1) := by decide +kernel
theorem d_S_len_5 : decode prog_18_method_54_code 5 = .ok (.aload_n 0, 1) := by decide +kernel
theorem d_S_len_6 : decode prog_18_method_54_code 6 = .ok (.invokevirtual 335, 3) := by decide +kernel
theorem d_S_len_9 : decode prog_18_method_54_code 9 = .ok (.ishr, 1) := by decide +kernel
theorem d_S_len_10 : decode prog_18_method_54_code 10 = .ok (.ireturn, 1) := by decide +kernel
abbrev M_S_cod : gx_M := (⟨"java/lang/String", "coder", "()B"⟩, prog_18_method_152_code, 1, some .byte)
theorem co_S_cod : Cond.code M_S_cod.1 M_S_cod.2.1 M_S_cod.2.2.1 M_S_cod.2.2.2 ∈ gx_T := gx_T_in (List.mem_append_right _ (show _ ∈ tables_1 from (List.mem_append_right _ (List.mem_append_right _ (List.mem_append_left _ (List.mem_of_getElem? (i := 42) (by decide +kernel))))))) (by decide +kernel)
theorem im_S_cod : Cond.instanceMethod M_S_cod.1 ∈ gx_T := gx_T_in (List.mem_append_right _ (show _ ∈ tables_1 from (List.mem_append_right _ (List.mem_append_right _ (List.mem_append_left _ (List.mem_of_getElem? (i := 40) (by decide +kernel))))))) (by decide +kernel)
theorem se_S_cod : Cond.selects "java/lang/String" M_S_cod.1 M_S_cod.1 ∈ gx_T := gx_T_in (List.mem_append_right _ (show _ ∈ tables_1 from (List.mem_append_right _ (List.mem_append_right _ (List.mem_append_left _ (List.mem_of_getElem? (i := 41) (by decide +kernel))))))) (by decide +kernel)
theorem d_S_cod_0 : decode prog_18_method_152_code 0 = .ok (.getstatic 38, 3) := by decide +kernel
theorem d_S_cod_3 : decode prog_18_method_152_code 3 = .ok (.ifCond .eq 10, 3) := by decide +kernel
theorem d_S_cod_6 : decode prog_18_method_152_code 6 = .ok (.aload_n 0, 1) := by decide +kernel
theorem d_S_cod_7 : decode prog_18_method_152_code 7 = .ok (.getfield 15, 3) := by decide +kernel
theorem d_S_cod_10 : decode prog_18_method_152_code 10 = .ok (.goto 4, 3) := by decide +kernel
theorem d_S_cod_13 : decode prog_18_method_152_code 13 = .ok (.iconst 1, 1) := by decide +kernel
theorem d_S_cod_14 : decode prog_18_method_152_code 14 = .ok (.ireturn, 1) := by decide +kernel
abbrev M_L_ix : gx_M := (⟨"java/lang/StringLatin1", "indexOf", "([BIII)I"⟩, prog_19_method_22_code, 4, some .int)
theorem co_L_ix : Cond.code M_L_ix.1 M_L_ix.2.1 M_L_ix.2.2.1 M_L_ix.2.2.2 ∈ gx_T := gx_T_in (List.mem_append_right _ (show _ ∈ tables_1 from (List.mem_append_right _ (List.mem_append_right _ (List.mem_append_left _ (List.mem_of_getElem? (i := 45) (by decide +kernel))))))) (by decide +kernel)
theorem st_L_ix : Cond.static M_L_ix.1 ∈ gx_T := gx_T_in (List.mem_append_right _ (show _ ∈ tables_1 from (List.mem_append_right _ (List.mem_append_right _ (List.mem_append_left _ (List.mem_of_getElem? (i := 44) (by decide +kernel))))))) (by decide +kernel)
theorem d_L_ix_0 : decode prog_19_method_22_code 0 = .ok (.iload_n 1, 1) := by decide +kernel
theorem d_L_ix_1 : decode prog_19_method_22_code 1 = .ok (.invokestatic 88, 3) := by decide +kernel
theorem d_L_ix_4 : decode prog_19_method_22_code 4 = .ok (.ifCond .ne 5, 3) := by decide +kernel
theorem d_L_ix_7 : decode prog_19_method_22_code 7 = .ok (.iconst (-1), 1) := by decide +kernel
theorem d_L_ix_8 : decode prog_19_method_22_code 8 = .ok (.ireturn, 1) := by decide +kernel
theorem d_L_ix_9 : decode prog_19_method_22_code 9 = .ok (.iload_n 2, 1) := by decide +kernel
theorem d_L_ix_10 : decode prog_19_method_22_code 10 = .ok (.iconst 0, 1) := by decide +kernel
theorem d_L_ix_11 : decode prog_19_method_22_code 11 = .ok (.invokestatic 92, 3) := by decide +kernel
theorem d_L_ix_14 : decode prog_19_method_22_code 14 = .ok (.istore_n 2, 1) := by decide +kernel
theorem d_L_ix_15 : decode prog_19_method_22_code 15 = .ok (.iload_n 3, 1) := by decide +kernel
theorem d_L_ix_16 : decode prog_19_method_22_code 16 = .ok (.aload_n 0, 1) := by decide +kernel
theorem d_L_ix_17 : decode prog_19_method_22_code 17 = .ok (.arraylength, 1) := by decide +kernel
theorem d_L_ix_18 : decode prog_19_method_22_code 18 = .ok (.invokestatic 38, 3) := by decide +kernel
theorem d_L_ix_21 : decode prog_19_method_22_code 21 = .ok (.istore_n 3, 1) := by decide +kernel
theorem d_L_ix_22 : decode prog_19_method_22_code 22 = .ok (.iload_n 2, 1) := by decide +kernel
theorem d_L_ix_23 : decode prog_19_method_22_code 23 = .ok (.iload_n 3, 1) := by decide +kernel
theorem d_L_ix_24 : decode prog_19_method_22_code 24 = .ok (.if_icmp .lt 5, 3) := by decide +kernel
theorem d_L_ix_27 : decode prog_19_method_22_code 27 = .ok (.iconst (-1), 1) := by decide +kernel
theorem d_L_ix_28 : decode prog_19_method_22_code 28 = .ok (.ireturn, 1) := by decide +kernel
theorem d_L_ix_29 : decode prog_19_method_22_code 29 = .ok (.aload_n 0, 1) := by decide +kernel
theorem d_L_ix_30 : decode prog_19_method_22_code 30 = .ok (.iload_n 1, 1) := by decide +kernel
theorem d_L_ix_31 : decode prog_19_method_22_code 31 = .ok (.iload_n 2, 1) := by decide +kernel
theorem d_L_ix_32 : decode prog_19_method_22_code 32 = .ok (.iload_n 3, 1) := by decide +kernel
theorem d_L_ix_33 : decode prog_19_method_22_code 33 = .ok (.invokestatic 95, 3) := by decide +kernel
theorem d_L_ix_36 : decode prog_19_method_22_code 36 = .ok (.ireturn, 1) := by decide +kernel
abbrev M_L_can : gx_M := (⟨"java/lang/StringLatin1", "canEncode", "(I)Z"⟩, prog_19_method_4_code, 1, some .boolean)
theorem co_L_can : Cond.code M_L_can.1 M_L_can.2.1 M_L_can.2.2.1 M_L_can.2.2.2 ∈ gx_T := gx_T_in (List.mem_append_right _ (show _ ∈ tables_1 from (List.mem_append_right _ (List.mem_append_right _ (List.mem_append_left _ (List.mem_of_getElem? (i := 48) (by decide +kernel))))))) (by decide +kernel)
theorem st_L_can : Cond.static M_L_can.1 ∈ gx_T := gx_T_in (List.mem_append_right _ (show _ ∈ tables_1 from (List.mem_append_right _ (List.mem_append_right _ (List.mem_append_left _ (List.mem_of_getElem? (i := 47) (by decide +kernel))))))) (by decide +kernel)
theorem d_L_can_0 : decode prog_19_method_4_code 0 = .ok (.iload_n 0, 1) := by decide +kernel
theorem d_L_can_1 : decode prog_19_method_4_code 1 = .ok (.ifCond .lt 14, 3) := by decide +kernel
theorem d_L_can_4 : decode prog_19_method_4_code 4 = .ok (.iload_n 0, 1) := by decide +kernel
theorem d_L_can_5 : decode prog_19_method_4_code 5 = .ok (.sipush 255, 3) := by decide +kernel
theorem d_L_can_8 : decode prog_19_method_4_code 8 = .ok (.if_icmp .gt 7, 3) := by decide +kernel
theorem d_L_can_11 : decode prog_19_method_4_code 11 = .ok (.iconst 1, 1) := by decide +kernel
theorem d_L_can_12 : decode prog_19_method_4_code 12 = .ok (.goto 4, 3) := by decide +kernel
theorem d_L_can_15 : decode prog_19_method_4_code 15 = .ok (.iconst 0, 1) := by decide +kernel
theorem d_L_can_16 : decode prog_19_method_4_code 16 = .ok (.ireturn, 1) := by decide +kernel
abbrev M_L_ixc : gx_M := (⟨"java/lang/StringLatin1", "indexOfChar", "([BIII)I"⟩, prog_19_method_23_code, 6, some .int)
theorem co_L_ixc : Cond.code M_L_ixc.1 M_L_ixc.2.1 M_L_ixc.2.2.1 M_L_ixc.2.2.2 ∈ gx_T := gx_T_in (List.mem_append_right _ (show _ ∈ tables_1 from (List.mem_append_right _ (List.mem_append_right _ (List.mem_append_left _ (List.mem_of_getElem? (i := 53) (by decide +kernel))))))) (by decide +kernel)
theorem st_L_ixc : Cond.static M_L_ixc.1 ∈ gx_T := gx_T_in (List.mem_append_right _ (show _ ∈ tables_1 from (List.mem_append_right _ (List.mem_append_right _ (List.mem_append_left _ (List.mem_of_getElem? (i := 52) (by decide +kernel))))))) (by decide +kernel)
theorem d_L_ixc_0 : decode prog_19_method_23_code 0 = .ok (.iload_n 1, 1) := by decide +kernel
theorem d_L_ixc_1 : decode prog_19_method_23_code 1 = .ok (.i2b, 1) := by decide +kernel
theorem d_L_ixc_2 : decode prog_19_method_23_code 2 = .ok (.istore 4, 2) := by decide +kernel
theorem d_L_ixc_4 : decode prog_19_method_23_code 4 = .ok (.iload_n 2, 1) := by decide +kernel
theorem d_L_ixc_5 : decode prog_19_method_23_code 5 = .ok (.istore 5, 2) := by decide +kernel
theorem d_L_ixc_7 : decode prog_19_method_23_code 7 = .ok (.iload 5, 2) := by decide +kernel
theorem d_L_ixc_9 : decode prog_19_method_23_code 9 = .ok (.iload_n 3, 1) := by decide +kernel
theorem d_L_ixc_10 : decode prog_19_method_23_code 10 = .ok (.if_icmp .ge 21, 3) := by decide +kernel
theorem d_L_ixc_13 : decode prog_19_method_23_code 13 = .ok (.aload_n 0, 1) := by decide +kernel
theorem d_L_ixc_14 : decode prog_19_method_23_code 14 = .ok (.iload 5, 2) := by decide +kernel
theorem d_L_ixc_16 : decode prog_19_method_23_code 16 = .ok (.baload, 1) := by decide +kernel
theorem d_L_ixc_17 : decode prog_19_method_23_code 17 = .ok (.iload 4, 2) := by decide +kernel
theorem d_L_ixc_19 : decode prog_19_method_23_code 19 = .ok (.if_icmp .ne 6, 3) := by decide +kernel
theorem d_L_ixc_22 : decode prog_19_method_23_code 22 = .ok (.iload 5, 2) := by decide +kernel
theorem d_L_ixc_24 : decode prog_19_method_23_code 24 = .ok (.ireturn, 1) := by decide +kernel
theorem d_L_ixc_25 : decode prog_19_method_23_code 25 = .ok (.iinc 5 1, 3) := by decide +kernel
theorem d_L_ixc_28 : decode prog_19_method_23_code 28 = .ok (.goto (-21), 3) := by decide +kernel
theorem d_L_ixc_31 : decode prog_19_method_23_code 31 = .ok (.iconst (-1), 1) := by decide +kernel
theorem d_L_ixc_32 : decode prog_19_method_23_code 32 = .ok (.ireturn, 1) := by decide +kernel
theorem in_Str : Cond.initialized "java/lang/String" ∈ gx_T := gx_T_in (List.mem_append_right _ (show _ ∈ tables_1 from (List.mem_append_left _ (List.mem_of_getElem? (i := 17) (by decide +kernel))))) (by decide +kernel)
theorem in_L1 : Cond.initialized "java/lang/StringLatin1" ∈ gx_T := gx_T_in (List.mem_append_right _ (show _ ∈ tables_1 from (List.mem_append_left _ (List.mem_of_getElem? (i := 18) (by decide +kernel))))) (by decide +kernel)
theorem mk_PC_181 : Cond.methodLink "PostChain" 181 M_S_ix1.1 ∈ gx_T := gx_T_in (List.mem_append_right _ (show _ ∈ tables_1 from (List.mem_append_right _ (List.mem_append_right _ (List.mem_append_left _ (List.mem_of_getElem? (i := 21) (by decide +kernel))))))) (by decide +kernel)
theorem mk_S_633 : Cond.methodLink "java/lang/String" 633 M_S_ix2.1 ∈ gx_T := gx_T_in (List.mem_append_right _ (show _ ∈ tables_1 from (List.mem_append_right _ (List.mem_append_right _ (List.mem_append_left _ (List.mem_of_getElem? (i := 25) (by decide +kernel))))))) (by decide +kernel)
theorem mk_S_492 : Cond.methodLink "java/lang/String" 492 M_S_lat.1 ∈ gx_T := gx_T_in (List.mem_append_right _ (show _ ∈ tables_1 from (List.mem_append_right _ (List.mem_append_right _ (List.mem_append_left _ (List.mem_of_getElem? (i := 29) (by decide +kernel))))))) (by decide +kernel)
theorem mk_S_505 : Cond.methodLink "java/lang/String" 505 M_S_len.1 ∈ gx_T := gx_T_in (List.mem_append_right _ (show _ ∈ tables_1 from (List.mem_append_right _ (List.mem_append_right _ (List.mem_append_left _ (List.mem_of_getElem? (i := 35) (by decide +kernel))))))) (by decide +kernel)
theorem mk_S_335 : Cond.methodLink "java/lang/String" 335 M_S_cod.1 ∈ gx_T := gx_T_in (List.mem_append_right _ (show _ ∈ tables_1 from (List.mem_append_right _ (List.mem_append_right _ (List.mem_append_left _ (List.mem_of_getElem? (i := 39) (by decide +kernel))))))) (by decide +kernel)
theorem mk_S_637 : Cond.methodLink "java/lang/String" 637 M_L_ix.1 ∈ gx_T := gx_T_in (List.mem_append_right _ (show _ ∈ tables_1 from (List.mem_append_right _ (List.mem_append_right _ (List.mem_append_left _ (List.mem_of_getElem? (i := 43) (by decide +kernel))))))) (by decide +kernel)
theorem mk_L_88 : Cond.methodLink "java/lang/StringLatin1" 88 M_L_can.1 ∈ gx_T := gx_T_in (List.mem_append_right _ (show _ ∈ tables_1 from (List.mem_append_right _ (List.mem_append_right _ (List.mem_append_left _ (List.mem_of_getElem? (i := 46) (by decide +kernel))))))) (by decide +kernel)
theorem mk_L_95 : Cond.methodLink "java/lang/StringLatin1" 95 M_L_ixc.1 ∈ gx_T := gx_T_in (List.mem_append_right _ (show _ ∈ tables_1 from (List.mem_append_right _ (List.mem_append_right _ (List.mem_append_left _ (List.mem_of_getElem? (i := 51) (by decide +kernel))))))) (by decide +kernel)
theorem mk_L_92 : gx_lM "java/lang/StringLatin1" 92 Lib.Math.max.name Lib.Math.max.code := ⟨gx_T_in (List.mem_append_right _ (show _ ∈ tables_1 from (List.mem_append_right _ (List.mem_append_right _ (List.mem_append_left _ (List.mem_of_getElem? (i := 49) (by decide +kernel))))))) (by decide +kernel), st_Math_max, in_Math, co_Math_max⟩
theorem mk_L_38 : gx_lM "java/lang/StringLatin1" 38 Lib.Math.min.name Lib.Math.min.code := ⟨gx_T_in (List.mem_append_right _ (show _ ∈ tables_1 from (List.mem_append_right _ (List.mem_append_right _ (List.mem_append_left _ (List.mem_of_getElem? (i := 50) (by decide +kernel))))))) (by decide +kernel), st_Math_min, in_Math, co_Math_min⟩
theorem fk_S_9 : Cond.fieldLink "java/lang/String" 9 "java/lang/String" "value" "[B" ∈ gx_T := gx_T_in (List.mem_append_right _ (show _ ∈ tables_1 from (List.mem_append_right _ (List.mem_append_right _ (List.mem_append_right _ (List.mem_append_right _ (List.mem_of_getElem? (i := 99) (by decide +kernel)))))))) (by decide +kernel)
theorem fk_S_15 : Cond.fieldLink "java/lang/String" 15 "java/lang/String" "coder" "B" ∈ gx_T := gx_T_in (List.mem_append_right _ (show _ ∈ tables_1 from (List.mem_append_right _ (List.mem_append_right _ (List.mem_append_right _ (List.mem_append_right _ (List.mem_of_getElem? (i := 98) (by decide +kernel)))))))) (by decide +kernel)
theorem fk_S_38 : Cond.fieldLink "java/lang/String" 38 "java/lang/String" "COMPACT_STRINGS" "Z" ∈ gx_T := gx_T_in (List.mem_append_right _ (show _ ∈ tables_1 from (List.mem_append_right _ (List.mem_append_right _ (List.mem_append_left _ (List.mem_of_getElem? (i := 33) (by decide +kernel))))))) (by decide +kernel)
/-- the text's object and its bytes -/
def gx_sF (aK aV : Nat) : gx_N → State → Prop := fun N U => vk_S 1 [9] [gx_ab] (fun _ => aK) (fun _ => aV) (gx_oA N) U N.2.2
theorem gx_oS {N : gx_N} {A : Nat → Prop} {s : State} {H : Heap} {locs : List Loc} (hAo : ∀ q, A q → N.2.2.size ≤ q) (hS : va_S A s.heap H locs) : va_S (gx_oA N) s.heap H locs := ⟨hS.1, fun q h1 h2 => hS.2.1 q h1 (fun h3 => h2 (hAo q h3)), fun l hl => hAo _ (hS.2.2 l hl)⟩
section GXS
variable {F : gx_N → State → Prop} {M : gx_M} {d : Nat} {Q : gx_P} {pc : Nat} {L : List (Option Value)} {st rest : List Value} {w : gx_W} {b : Nat × Nat} {aK aV : Nat}
theorem gx_wkF (k : gx_X (fun _ _ => True) M d Q pc L st w b) : gx_X F M d Q pc L st w b := fun p l e R s m args below meth c H locs cells slots ls N A V hl hw hS hd hc hs => by
  obtain ⟨hx, hb, hml, hr, hlk, hown, hnm, hts, hK, hfr, hlo, hA, hF, h1⟩ := V
  exact k p l e R s m args below meth c H locs cells slots ls N A ⟨hx, hb, hml, hr, hlk, hown, hnm, hts, hK, hfr, hlo, hA, trivial, h1⟩ hl hw hS hd hc hs
theorem gx_ldcA (hM : M.1.cls = "PostChain") (hdg : decode M.2.1 pc = .ok (.ldc 179, 2)) (k : ∀ aK aV, gx_X (gx_sF aK aV) M d Q (pc + 2) L (.ref aK :: st) w b) : gx_X F M d Q pc L st w b := fun p l e R s m args below meth c H locs cells slots ls N A V hl hw hS hd hc hs => by
  obtain ⟨hx, hb, hml, hr, hlk, hown, hnm, hts, hK, hfr, hlo, hA, hF, h1⟩ := V
  obtain ⟨e1, e2, e3, e4, ⟨adK, adV, e5, e6⟩, e7⟩ := hK.2.2.2.2.2
  have e8 : gx_sF (adK 0) (adV 0) N s := by
    refine ⟨fun i hi => ?_, fun i j hi hj _ => by omega⟩
    have := e6.1 i hi
    rw [show i = 0 by omega] at this ⊢
    exact this
  exact va_ldcS hx hb (show s.vm.findClass "PostChain" = _ by rw [← hM]; exact hown) e5 hdg (k (adK 0) (adV 0) p l e R s m args below meth c H locs cells slots ls N A ⟨hx, hb, hml, hr, hlk, hown, hnm, hts, hK, hfr, hlo, hA, e8, h1⟩ hl hw hS hd hc hs)
theorem gx_goS {pc' : Nat} {st' : List Value}
    (h : ∀ {p : Program} {l : Launch} {e : Env} {R : Room} {s : State} {m : MethodId} {args : Array Value} {below : List Frame} {meth : Method} {c : Code} {H : Heap} {locs : List Loc} {cells slots : Nat} {Q0 : State → Prop} {ls : Array Slot} {N : gx_N} {A : Nat → Prop},
      gx_V (gx_sF aK aV) M d R p l s m args meth c N A → vk_S 1 [9] [gx_ab] (fun _ => aK) (fun _ => aV) (gx_oA N) s s.heap → va_S (gx_oA N) s.heap H locs → W p l e R s m args below meth c H locs cells slots Q0 (F0 m pc' ls st') → W p l e R s m args below meth c H locs cells slots Q0 (F0 m pc ls st))
    (k : gx_X (gx_sF aK aV) M d Q pc' L st' w b) : gx_X (gx_sF aK aV) M d Q pc L st w b :=
  fun p l e R s m args below meth c H locs cells slots ls N A V hl hw hS hd hc hs => by
    have V0 := V
    obtain ⟨hx, hb, hml, hr, hlk, hown, hnm, hts, hK, hfr, hlo, hA, hF, hlt, hxt, hAo, hso⟩ := V
    exact h V0 (vk_S.kept hF (fun q hq _ => hso q hq)) (gx_oS hAo hS) (k p l e R s m args below meth c H locs cells slots ls N A V0 hl hw hS hd hc hs)
theorem gx_sval (hM : M.1.cls = "java/lang/String") (hdg : decode M.2.1 pc = .ok (.getfield 9, 3)) (k : gx_X (gx_sF aK aV) M d Q (pc + 3) L (.ref aV :: st) w b) : gx_X (gx_sF aK aV) M d Q pc L (.ref aK :: st) w b := gx_goS (fun V hE hS k => by
  obtain ⟨hx, hb, hml, hr, hlk, hown, hnm, hts, hK, h1⟩ := V
  exact vk_getf hx hb (hE.1 0 (by decide)).2.2.1 hS (show _ = some _ by rw [← hM]; exact hown) (hts _ fk_S_9) (fun _ h => h) hdg k) k
theorem gx_scod (hM : M.1.cls = "java/lang/String") (hdg : decode M.2.1 pc = .ok (.getfield 15, 3)) (k : gx_X (gx_sF aK aV) M d Q (pc + 3) L (.int 0 :: st) w b) : gx_X (gx_sF aK aV) M d Q pc L (.ref aK :: st) w b := gx_goS (fun V hE hS k => by
  obtain ⟨hx, hb, hml, hr, hlk, hown, hnm, hts, hK, h1⟩ := V
  exact vk_getf hx hb (hE.1 0 (by decide)).2.1 hS (show _ = some _ by rw [← hM]; exact hown) (hts _ fk_S_15) (fun _ h => h) hdg k) k
theorem gx_scom (hM : M.1.cls = "java/lang/String") (hdg : decode M.2.1 pc = .ok (.getstatic 38, 3)) (k : gx_X (gx_sF aK aV) M d Q (pc + 3) L (.int 1 :: st) w b) : gx_X (gx_sF aK aV) M d Q pc L st w b := gx_goS (fun V hE hS k => by
  obtain ⟨hx, hb, hml, hr, hlk, hown, hnm, hts, hK, hfr, hlo, hA, hF, hlt, hxt, hAo, hso⟩ := V
  obtain ⟨e1, e2, e3, e4, e5, e7, e8⟩ := hK.2.2.2.2.2
  exact va_gets hx hb (e7.kept (fun q hq _ => hso q hq)) hS (show _ = some _ by rw [← hM]; exact hown) (hts _ fk_S_38) (fun _ h => h) hdg k) k
theorem gx_slen (hdg : decode M.2.1 pc = .ok (.arraylength, 1)) (k : gx_X (gx_sF aK aV) M d Q (pc + 1) L (.int (nI 9) :: st) w b) : gx_X (gx_sF aK aV) M d Q pc L (.ref aV :: st) w b := gx_goS (fun V hE hS k => by
  obtain ⟨hx, hb, hml, hr, hlk, hown, hnm, hts, hK, h1⟩ := V
  exact va_tlen hx hb (hE.1 0 (by decide)).2.2.2 hS rfl hdg k) k
theorem gx_sbal {j : Nat} (hj : j < 9) (hdg : decode M.2.1 pc = .ok (.baload, 1)) (k : gx_X (gx_sF aK aV) M d Q (pc + 1) L (.int (gx_ab.getD j 0) :: st) w b) : gx_X (gx_sF aK aV) M d Q pc L (.int (nI j) :: .ref aV :: st) w b := gx_goS (fun V hE hS k => by
  obtain ⟨hx, hb, hml, hr, hlk, hown, hnm, hts, hK, h1⟩ := V
  exact va_tb hx hb (hE.1 0 (by decide)).2.2.2 hS (vp_in_nI (show j < [9].getD 0 0 from hj) (by decide)) (by rw [nI_clamp (by omega)]; rfl) hdg k) k
theorem gx_i2b {x : Int32} (hdg : decode M.2.1 pc = .ok (.i2b, 1)) (k : gx_X F M d Q (pc + 1) L (.int x.toInt8.toInt32 :: st) w b) : gx_X F M d Q pc L (.int x :: st) w b := gx_go (fun V _ _ k => lv_i2b V.1 V.2.1 hdg rfl k) k
theorem gx_ishr {x y : Int32} (hdg : decode M.2.1 pc = .ok (.ishr, 1)) (k : gx_X F M d Q (pc + 1) L (.int (x >>> (y &&& 31)) :: st) w b) : gx_X F M d Q pc L (.int y :: .int x :: st) w b := gx_go (fun V _ _ k => lv_ishr V.1 V.2.1 hdg k) k
theorem gx_L {L' : List (Option Value)} (h : L = L') (k : gx_X F M d Q pc L' st w b) : gx_X F M d Q pc L st w b := h ▸ k
set_option maxHeartbeats 1000000 in
/-- a virtual call on the text -/
theorem gx_callY {Mc : gx_M} {idx d' n : Nat} {as : List Value} {Q' : Option Value → gx_W → Prop} (hco : Cond.code Mc.1 Mc.2.1 Mc.2.2.1 Mc.2.2.2 ∈ gx_T) (hin : Cond.instanceMethod Mc.1 ∈ gx_T) (hse : Cond.selects "java/lang/String" Mc.1 Mc.1 ∈ gx_T) (hlk0 : Cond.methodLink M.1.cls idx Mc.1 ∈ gx_T) (hmh : Mc.1.cls ≠ "java/lang/invoke/MethodHandle" ∧ Mc.1.cls ≠ "java/lang/invoke/VarHandle") (h13 : Mc.2.2.1 ≤ 13) (hnp : gx_np Mc n) (hdg : decode M.2.1 pc = .ok (.invokevirtual idx, 3)) (hpn : plainFor Mc.1 = true) (ht0 : gx_tab Mc.1 = []) (hC : gx_X (gx_sF aK aV) Mc d' (gx_nt Q') 0 (gx_in Mc.2.2.1 (.ref aK :: as)) [] w (0, 0)) (hn0 : (lg_sl (.ref aK :: as)).length ≤ Mc.2.2.1) (hd' : d' + 1 ≤ d) (hn : as.length = n) (hst : st = as.reverse ++ .ref aK :: rest) (hrm : (rest.map fun v => v.category).sum ≤ 8)
    (k : ∀ r w', Q' r w' → gx_X (gx_sF aK aV) M d Q (pc + 3) L (r.toList ++ rest) w' b) : gx_X (gx_sF aK aV) M d Q pc L st w b := fun p l e R s m args below meth c H locs cells slots ls N A V hl hw hSS hd hc hs => by
  have V0 := V
  obtain ⟨hx, hb, hml, hr, hlk, hown, hnm, hts, hK, hfr, hlo, hA, hF, hlt, hxt, hAo, hso⟩ := V
  intro T hT X
  obtain ⟨cellB, hcB, hoB, hclB⟩ := vk_recv (vk_S.kept hF (fun q hq _ => hso q hq)) (show 0 < 1 by decide) (gx_oS hAo hSS)
  obtain ⟨mk, methM, hnamed, hmethM, hstM, habM⟩ := Cond.instanceMethod_spec (hts _ hin)
  obtain ⟨methM', cM, hmethM', hcM, hbM, hlM, hrM, hlkM, hemM, hsigM⟩ := Cond.code_spec hnamed (hts _ hco)
  cases hmethM.symm.trans hmethM'
  obtain ⟨c2, r2, m2, q1, q2, q3, q4, kP, hkP, hkPi⟩ := Cond.selects_spec (hts _ hse)
  cases hclB.symm.trans q1
  cases (State.methodFound?_of_named hnamed hmh).symm.trans q2
  cases hnamed.symm.trans q3
  obtain ⟨vm₁, X₁, hstep₁⟩ := X.invokevirtual hx hown (hts _ hlk0) hnamed hmethM hstM hkP hkPi hmh (a := aK) (cell := cellB) (by rw [hT]; exact hcB) (fun z h => by rw [h] at hoB; cases hoB) (by rw [Launch.admits_selectMethod X.admits]; exact q4) hmethM habM hkP hkPi (g := F0 m pc ls st) rfl (argsL := as) (rest := rest) (hn.trans (hnp.use _ hsigM)) hst (by rw [hb]; exact hdg)
  have hxtM : gx_xt Mc cM := by
    have h3 : cM.exceptionTable.size = 0 := by simpa [Array.isEmpty] using hemM
    have h2 : cM.exceptionTable.toList = [] := List.eq_nil_of_length_eq_zero (by simpa using h3)
    show cM.exceptionTable.toList.map _ = _
    rw [h2, ht0]; rfl
  have hT1 : (T.setVm vm₁).heap = H := hT
  generalize T.setVm vm₁ = T1 at X₁ hstep₁ hT1
  rw [← hT1] at hw hSS
  obtain ⟨T', Lc, w', X', hLc, hFt, hw', hcv, hor⟩ := gx_inl V0 hl.1 hw X₁ (by omega) (by omega) hdg hpn hnamed hmethM hcM hbM hlM hrM hlkM hxtM hC (fun U hU => vk_S.moved hU.alike hF) hn0 h13 hd' hrm
  rcases hor with ⟨r, hq, stp⟩ | ⟨_, _, hFalse, _⟩
  · obtain ⟨hup, hS'⟩ := gx_upS hw hSS hd hA hLc hFt
    obtain ⟨t2, a1, b1⟩ := k r w' hq p l e R s m args below meth c T'.heap (locs ++ Lc) (cells + 0) (slots + 0) ls N A V0 hl hw' hS' (fun q hq2 => hup q (hcv q hq2)) (by omega) (by omega) T' rfl X'
    exact ⟨t2, hstep₁ t2 (fun acts => (stp acts).trans a1), b1⟩
  · exact hFalse.elim
set_option maxHeartbeats 1000000 in
/-- a static call that knows the text -/
theorem gx_callZ {Mc : gx_M} {idx d' n : Nat} {as : List Value} {Q' : Option Value → gx_W → Prop} (hco : Cond.code Mc.1 Mc.2.1 Mc.2.2.1 Mc.2.2.2 ∈ gx_T) (hst0 : Cond.static Mc.1 ∈ gx_T) (hini : Cond.initialized Mc.1.cls ∈ gx_T) (hlk0 : Cond.methodLink M.1.cls idx Mc.1 ∈ gx_T) (hmh : Mc.1.cls ≠ "java/lang/invoke/MethodHandle" ∧ Mc.1.cls ≠ "java/lang/invoke/VarHandle") (h13 : Mc.2.2.1 ≤ 13) (hnp : gx_np Mc n) (hdg : decode M.2.1 pc = .ok (.invokestatic idx, 3)) (hpn : plainFor Mc.1 = true) (ht0 : gx_tab Mc.1 = []) (hC : gx_X (gx_sF aK aV) Mc d' (gx_nt Q') 0 (gx_in Mc.2.2.1 as) [] w (0, 0)) (hn0 : (lg_sl as).length ≤ Mc.2.2.1) (hd' : d' + 1 ≤ d) (hn : as.length = n) (hst : st = as.reverse ++ rest) (hrm : (rest.map fun v => v.category).sum ≤ 8)
    (k : ∀ r w', Q' r w' → gx_X (gx_sF aK aV) M d Q (pc + 3) L (r.toList ++ rest) w' b) : gx_X (gx_sF aK aV) M d Q pc L st w b := fun p l e R s m args below meth c H locs cells slots ls N A V hl hw hSS hd hc hs => by
  have V0 := V
  obtain ⟨hx, hb, hml, hr, hlk, hown, hnm, hts, hK, hfr, hlo, hA, hF, hlt, hxt, hAo, hso⟩ := V
  intro T hT X
  obtain ⟨mk, hnamed⟩ := Cond.named_of_code (hts _ hco)
  obtain ⟨methM, cM, hmethM, hcM, hbM, hlM, hrM, hlkM, hemM, hsigM⟩ := Cond.code_spec hnamed (hts _ hco)
  have hstatic : methM.isStatic = true := Cond.static_spec hnamed hmethM (hts _ hst0)
  obtain ⟨kP, hkP, -⟩ := className_of_methodNamed hnamed
  have hinitP : kP.init = .initialized := Cond.initialized_spec (findClass_of_methodNamed hnamed) hkP (hts _ hini)
  obtain ⟨vm₁, X₁, hstep₁⟩ := X.invokestatic hx hown (hts _ hlk0) hnamed hmethM hstatic hkP hinitP hmh (g := F0 m pc ls st) rfl (argsL := as) (rest := rest) (hn.trans (hnp.use _ hsigM)) hst (by rw [hb]; exact hdg)
  have hxtM : gx_xt Mc cM := by
    have h3 : cM.exceptionTable.size = 0 := by simpa [Array.isEmpty] using hemM
    have h2 : cM.exceptionTable.toList = [] := List.eq_nil_of_length_eq_zero (by simpa using h3)
    show cM.exceptionTable.toList.map _ = _
    rw [h2, ht0]; rfl
  have hT1 : (T.setVm vm₁).heap = H := hT
  generalize T.setVm vm₁ = T1 at X₁ hstep₁ hT1
  rw [← hT1] at hw hSS
  obtain ⟨T', Lc, w', X', hLc, hFt, hw', hcv, hor⟩ := gx_inl V0 hl.1 hw X₁ (by omega) (by omega) hdg hpn hnamed hmethM hcM hbM hlM hrM hlkM hxtM hC (fun U hU => vk_S.moved hU.alike hF) hn0 h13 hd' hrm
  rcases hor with ⟨r, hq, stp⟩ | ⟨_, _, hFalse, _⟩
  · obtain ⟨hup, hS'⟩ := gx_upS hw hSS hd hA hLc hFt
    obtain ⟨t2, a1, b1⟩ := k r w' hq p l e R s m args below meth c T'.heap (locs ++ Lc) (cells + 0) (slots + 0) ls N A V0 hl hw' hS' (fun q hq2 => hup q (hcv q hq2)) (by omega) (by omega) T' rfl X'
    exact ⟨t2, hstep₁ t2 (fun acts => (stp acts).trans a1), b1⟩
  · exact hFalse.elim
end GXS
def gx_abN : List Nat := [35, 48, 49, 50, 97, 98, 99, 100, 104]
theorem gx_ab_eq : ∀ c, c < 256 → ∀ i, i < 9 → (gx_ab.getD i 0 = (nI c).toInt8.toInt32 ↔ c = gx_abN.getD i 0) := by decide +kernel
/-- what indexOf says of a character -/
def sp_ixQ (w : gx_W) (c : Nat) : Option Value → gx_W → Prop := fun v w' => w' = w ∧ ∃ r : Int32, v = some (.int r) ∧ (¬ r < 0 ↔ c ∈ gx_abN)
theorem sx_cod {w : gx_W} {aK aV : Nat}  : gx_X (gx_sF aK aV) M_S_cod 1 (gx_nt (gx_eq (some (.int 0)) w)) 0 [some (.ref aK)] [] w (0, 0) := by
  refine gx_scom rfl d_S_cod_0 ?_
  refine gx_if_eq (tgt := 13) d_S_cod_3 (by decide) (fun h3 => ?_) (fun h3 => ?_)
  · exact absurd h3 (by decide)
  · refine gx_aload_n d_S_cod_6 rfl ?_
    refine gx_scod rfl d_S_cod_7 ?_
    refine gx_goto (tgt := 14) d_S_cod_10 (by decide) ?_
    refine gx_zreturn rfl (by decide) d_S_cod_14 ?_
    exact ⟨rfl, rfl⟩
theorem sx_lat {w : gx_W} {aK aV : Nat}  : gx_X (gx_sF aK aV) M_S_lat 1 (gx_nt (gx_eq (some (.int (nI 1))) w)) 0 [some (.ref aK)] [] w (0, 0) := by
  refine gx_scom rfl d_S_lat_0 ?_
  refine gx_if_eq (tgt := 17) d_S_lat_3 (by decide) (fun h3 => ?_) (fun h3 => ?_)
  · exact absurd h3 (by decide)
  · refine gx_aload_n d_S_lat_6 rfl ?_
    refine gx_scod rfl d_S_lat_7 ?_
    refine gx_if_ne (tgt := 17) d_S_lat_10 (by decide) (fun h10 => ?_) (fun h10 => ?_)
    · exact absurd rfl h10
    · refine gx_iconst d_S_lat_13 (nI 1) (by decide) ?_
      refine gx_goto (tgt := 18) d_S_lat_14 (by decide) ?_
      refine gx_zreturn rfl gx_nz1 d_S_lat_18 ?_
      exact ⟨rfl, rfl⟩
theorem sx_len {w : gx_W} {aK aV : Nat}  : gx_X (gx_sF aK aV) M_S_len 2 (gx_nt (gx_eq (some (.int (nI 9))) w)) 0 [some (.ref aK)] [] w (0, 0) := by
  refine gx_aload_n d_S_len_0 rfl ?_
  refine gx_sval rfl d_S_len_1 ?_
  refine gx_slen d_S_len_4 ?_
  refine gx_aload_n d_S_len_5 rfl ?_
  refine gx_callY (n := 0) co_S_cod im_S_cod se_S_cod mk_S_335 ⟨by decide, by decide⟩ (by decide) (by unfold gx_np; decide +kernel) d_S_len_6 (by decide +kernel) (by decide +kernel) (as := []) (sx_cod) (Nat.le_of_ble_eq_true rfl) (by omega) rfl rfl (Nat.le_of_ble_eq_true rfl) (fun r2 w2 hq => ?_)
  obtain ⟨rfl, rfl⟩ := hq
  refine gx_ishr d_S_len_9 ?_
  refine gx_top (show _ = nI 9 by decide) ?_
  refine gx_ireturn rfl d_S_len_10 ?_
  exact ⟨rfl, rfl⟩
theorem sx_can {w : gx_W} {aK aV : Nat} {c : Nat} (hc : c < 256) : gx_X (gx_sF aK aV) M_L_can 1 (gx_nt (gx_eq (some (.int (nI 1))) w)) 0 [some (.int (nI c))] [] w (0, 0) := by
  refine gx_iload_n d_L_can_0 rfl ?_
  refine gx_if_ltN (by omega) (tgt := 15) d_L_can_1 (by decide) ?_
  refine gx_iload_n d_L_can_4 rfl ?_
  refine gx_sipush d_L_can_5 (nI 255) (by decide) ?_
  refine gx_icmp_gtN (by omega) (by omega) (tgt := 15) d_L_can_8 (by decide) (fun h8 => ?_) (fun h8 => ?_)
  · exact absurd h8 (by omega)
  · refine gx_iconst d_L_can_11 (nI 1) (by decide) ?_
    refine gx_goto (tgt := 16) d_L_can_12 (by decide) ?_
    refine gx_zreturn rfl gx_nz1 d_L_can_16 ?_
    exact ⟨rfl, rfl⟩
theorem lp_ixc {Q : gx_P} {w : gx_W} {aK aV c : Nat} (hc : c < 256) (hQ : ∀ r : Int32, (¬ r < 0 ↔ c ∈ gx_abN) → Q.1 (some (.int r)) w) : ∀ (fu : Nat) (i : Nat), 9 - i < fu → (i ≤ 9) → (∀ j, j < i → ¬ c = gx_abN.getD j 0) → gx_X (gx_sF aK aV) M_L_ixc 1 Q 7 [some (.ref aV), some (.int (nI c)), some (.int (nI 0)), some (.int (nI 9)), some (.int (nI c).toInt8.toInt32), some (.int (nI i))] [] w (0, 0) := by
  intro fu
  induction fu with
  | zero => intro i hfu; exact absurd hfu (Nat.not_lt_zero _)
  | succ fu ih =>
    intro i hfu hi hno
    refine gx_iload d_L_ixc_7 rfl ?_
    refine gx_iload_n d_L_ixc_9 rfl ?_
    refine gx_icmp_geN (by omega) (by omega) (tgt := 31) d_L_ixc_10 (by decide) (fun h10 => ?_) (fun h10 => ?_)
    · refine gx_iconst d_L_ixc_31 (-1) (by decide) ?_
      refine gx_ireturn rfl d_L_ixc_32 ?_
      refine hQ _ ⟨fun g => absurd (by decide) g, fun g => ?_⟩
      obtain ⟨j, hj, hj2⟩ := List.mem_iff_getElem.mp g
      have hj9 : j < 9 := hj
      refine absurd ?_ (hno j (by omega))
      rw [← hj2, List.getD_eq_getElem?_getD, List.getElem?_eq_getElem hj]; rfl
    · refine gx_aload_n d_L_ixc_13 rfl ?_
      refine gx_iload d_L_ixc_14 rfl ?_
      refine gx_sbal (by omega) d_L_ixc_16 ?_
      refine gx_iload d_L_ixc_17 rfl ?_
      refine gx_icmp_ne (tgt := 25) d_L_ixc_19 (by decide) (fun h19 => ?_) (fun h19 => ?_)
      · refine gx_iincN (n := 1) d_L_ixc_25 rfl (by decide) (Nat.le_of_ble_eq_true rfl) rfl ?_
        refine gx_goto (tgt := 7) d_L_ixc_28 (by decide) ?_
        exact ih (i + 1) (by omega) (by omega) (fun j hj => by
          by_cases e : j = i
          · rw [e]; exact fun g => h19 ((gx_ab_eq c hc i (by omega)).mpr g)
          · exact hno j (by omega))
      · refine gx_iload d_L_ixc_22 rfl ?_
        refine gx_ireturn rfl d_L_ixc_24 ?_
        refine hQ _ ⟨fun _ => ?_, fun _ => nI_pos (by omega)⟩
        rw [(gx_ab_eq c hc i (by omega)).mp h19]
        exact gx_gd_mem (show i < gx_abN.length from by show i < 9; omega)
theorem sx_ixc {w : gx_W} {aK aV : Nat} {c : Nat} (hc : c < 256) : gx_X (gx_sF aK aV) M_L_ixc 1 (gx_nt (sp_ixQ w c)) 0 [some (.ref aV), some (.int (nI c)), some (.int (nI 0)), some (.int (nI 9)), none, none] [] w (0, 0) := by
  refine gx_iload_n d_L_ixc_0 rfl ?_
  refine gx_i2b d_L_ixc_1 ?_
  refine gx_istore d_L_ixc_2 (Nat.le_of_ble_eq_true rfl) rfl ?_
  refine gx_iload_n d_L_ixc_4 rfl ?_
  refine gx_istore d_L_ixc_5 (Nat.le_of_ble_eq_true rfl) rfl ?_
  exact lp_ixc (Q := gx_nt (sp_ixQ w c)) hc (fun r hr => ⟨rfl, r, rfl, hr⟩) 10 0 (by omega) (by omega) (fun j hj => absurd hj (Nat.not_lt_zero _))
theorem sx_lix {w : gx_W} {aK aV : Nat} {c : Nat} (hc : c < 256) : gx_X (gx_sF aK aV) M_L_ix 2 (gx_nt (sp_ixQ w c)) 0 [some (.ref aV), some (.int (nI c)), some (.int (nI 0)), some (.int (nI 9))] [] w (0, 0) := by
  refine gx_iload_n d_L_ix_0 rfl ?_
  refine gx_callZ (n := 1) co_L_can st_L_can in_L1 mk_L_88 ⟨by decide, by decide⟩ (by decide) (by unfold gx_np; decide +kernel) d_L_ix_1 (by decide +kernel) (by decide +kernel) (as := [.int (nI c)]) (sx_can hc) (Nat.le_of_ble_eq_true rfl) (by omega) rfl rfl (Nat.le_of_ble_eq_true rfl) (fun r2 w2 hq => ?_)
  obtain ⟨rfl, rfl⟩ := hq
  refine gx_if_neN (by omega) (tgt := 9) d_L_ix_4 (by decide) (fun h4 => ?_) (fun h4 => ?_)
  · refine gx_iload_n d_L_ix_9 rfl ?_
    refine gx_iconst d_L_ix_10 (nI 0) (by decide) ?_
    refine gx_max mk_L_92 (by omega) (Nat.le_of_ble_eq_true rfl) d_L_ix_11 ?_
    refine gx_top (show _ = nI 0 by decide) ?_
    refine gx_istore_n d_L_ix_14 (Nat.le_of_ble_eq_true rfl) rfl ?_
    refine gx_iload_n d_L_ix_15 rfl ?_
    refine gx_aload_n d_L_ix_16 rfl ?_
    refine gx_slen d_L_ix_17 ?_
    refine gx_min mk_L_38 (by omega) (Nat.le_of_ble_eq_true rfl) d_L_ix_18 ?_
    refine gx_top (show _ = nI 9 by decide) ?_
    refine gx_istore_n d_L_ix_21 (Nat.le_of_ble_eq_true rfl) rfl ?_
    refine gx_iload_n d_L_ix_22 rfl ?_
    refine gx_iload_n d_L_ix_23 rfl ?_
    refine gx_icmp_ltN (by omega) (by omega) (tgt := 29) d_L_ix_24 (by decide) (fun h24 => ?_) (fun h24 => ?_)
    · refine gx_aload_n d_L_ix_29 rfl ?_
      refine gx_iload_n d_L_ix_30 rfl ?_
      refine gx_iload_n d_L_ix_31 rfl ?_
      refine gx_iload_n d_L_ix_32 rfl ?_
      refine gx_callZ (n := 4) co_L_ixc st_L_ixc in_L1 mk_L_95 ⟨by decide, by decide⟩ (by decide) (by unfold gx_np; decide +kernel) d_L_ix_33 (by decide +kernel) (by decide +kernel) (as := [.ref aV, .int (nI c), .int (nI 0), .int (nI 9)]) (sx_ixc hc) (Nat.le_of_ble_eq_true rfl) (by omega) rfl rfl (Nat.le_of_ble_eq_true rfl) (fun r2 w2 hq => ?_)
      obtain ⟨rfl, r, rfl, hr⟩ := hq
      refine gx_ireturn rfl d_L_ix_36 ?_
      exact ⟨rfl, r, rfl, hr⟩
    · exact absurd (show 0 < 9 by decide) h24
  · exact absurd h4 (by decide)
theorem sx_ix2 {w : gx_W} {aK aV : Nat} {c : Nat} (hc : c < 256) : gx_X (gx_sF aK aV) M_S_ix2 3 (gx_nt (sp_ixQ w c)) 0 [some (.ref aK), some (.int (nI c)), some (.int (nI 0))] [] w (0, 0) := by
  refine gx_aload_n d_S_ix2_0 rfl ?_
  refine gx_callY (n := 0) co_S_lat im_S_lat se_S_lat mk_S_492 ⟨by decide, by decide⟩ (by decide) (by unfold gx_np; decide +kernel) d_S_ix2_1 (by decide +kernel) (by decide +kernel) (as := []) (sx_lat) (Nat.le_of_ble_eq_true rfl) (by omega) rfl rfl (Nat.le_of_ble_eq_true rfl) (fun r2 w2 hq => ?_)
  obtain ⟨rfl, rfl⟩ := hq
  refine gx_if_eqN (by omega) (tgt := 23) d_S_ix2_4 (by decide) (fun h4 => ?_) (fun h4 => ?_)
  · exact absurd h4 (by decide)
  · refine gx_aload_n d_S_ix2_7 rfl ?_
    refine gx_sval rfl d_S_ix2_8 ?_
    refine gx_iload_n d_S_ix2_11 rfl ?_
    refine gx_iload_n d_S_ix2_12 rfl ?_
    refine gx_aload_n d_S_ix2_13 rfl ?_
    refine gx_callY (n := 0) co_S_len im_S_len se_S_len mk_S_505 ⟨by decide, by decide⟩ (by decide) (by unfold gx_np; decide +kernel) d_S_ix2_14 (by decide +kernel) (by decide +kernel) (as := []) (sx_len) (Nat.le_of_ble_eq_true rfl) (by omega) rfl rfl (Nat.le_of_ble_eq_true rfl) (fun r2 w2 hq => ?_)
    obtain ⟨rfl, rfl⟩ := hq
    refine gx_callZ (n := 4) co_L_ix st_L_ix in_L1 mk_S_637 ⟨by decide, by decide⟩ (by decide) (by unfold gx_np; decide +kernel) d_S_ix2_17 (by decide +kernel) (by decide +kernel) (as := [.ref aV, .int (nI c), .int (nI 0), .int (nI 9)]) (sx_lix hc) (Nat.le_of_ble_eq_true rfl) (by omega) rfl rfl (Nat.le_of_ble_eq_true rfl) (fun r2 w2 hq => ?_)
    obtain ⟨rfl, r, rfl, hr⟩ := hq
    refine gx_goto (tgt := 36) d_S_ix2_20 (by decide) ?_
    refine gx_ireturn rfl d_S_ix2_36 ?_
    exact ⟨rfl, r, rfl, hr⟩
theorem sx_ix1 {w : gx_W} {aK aV : Nat} {c : Nat} (hc : c < 256) : gx_X (gx_sF aK aV) M_S_ix1 4 (gx_nt (sp_ixQ w c)) 0 [some (.ref aK), some (.int (nI c))] [] w (0, 0) := by
  refine gx_aload_n d_S_ix1_0 rfl ?_
  refine gx_iload_n d_S_ix1_1 rfl ?_
  refine gx_iconst d_S_ix1_2 (nI 0) (by decide) ?_
  refine gx_callY (n := 2) co_S_ix2 im_S_ix2 se_S_ix2 mk_S_633 ⟨by decide, by decide⟩ (by decide) (by unfold gx_np; decide +kernel) d_S_ix1_3 (by decide +kernel) (by decide +kernel) (as := [.int (nI c), .int (nI 0)]) (sx_ix2 hc) (Nat.le_of_ble_eq_true rfl) (by omega) rfl rfl (Nat.le_of_ble_eq_true rfl) (fun r2 w2 hq => ?_)
  obtain ⟨rfl, r, rfl, hr⟩ := hq
  refine gx_ireturn rfl d_S_ix1_6 ?_
  exact ⟨rfl, r, rfl, hr⟩
/-- the characters of a long, in their order -/
def sp_bys (x : Int64) : List Nat := [sp_by x 7, sp_by x 6, sp_by x 5, sp_by x 4, sp_by x 3, sp_by x 2, sp_by x 1, sp_by x 0]
def sp_cs (x : Int64) : List Nat := (sp_bys x).filter (fun c => c ≠ 0)
def op_type (S : sp_St) (x : Int64) : Nat × sp_St := if (∀ c ∈ sp_cs x, c ∈ gx_abN) ∧ S.2.2.2.1.length + (sp_cs x).length ≤ 60 then (1, (S.1, S.2.1, S.2.2.1, S.2.2.2.1 ++ sp_cs x, S.2.2.2.2)) else (0, S)
theorem sp_bys_at {x : Int64} {i : Nat} (h : i < 8) : (sp_bys x).getD i 0 = sp_by x (7 - i) := by
  rcases (show i = 0 ∨ i = 1 ∨ i = 2 ∨ i = 3 ∨ i = 4 ∨ i = 5 ∨ i = 6 ∨ i = 7 by omega) with rfl | rfl | rfl | rfl | rfl | rfl | rfl | rfl <;> rfl
def sp_ct (x : Int64) (i : Nat) : List Nat := ((sp_bys x).take i).filter (fun c => c ≠ 0)
theorem sp_ct_s {x : Int64} {i : Nat} (h : i < 8) : sp_ct x (i + 1) = sp_ct x i ++ (if sp_by x (7 - i) = 0 then [] else [sp_by x (7 - i)]) := by
  unfold sp_ct
  rw [gx_take_succ (show i < (sp_bys x).length from h), sp_bys_at h, List.filter_append]
  congr 1
  by_cases g : sp_by x (7 - i) = 0 <;> simp [g]
theorem sp_ct_8 (x : Int64) : sp_ct x 8 = sp_cs x := rfl
theorem sp_ct_le (x : Int64) (i : Nat) (h : i ≤ 8) : (sp_ct x i).length ≤ i := by
  unfold sp_ct
  have h1 := List.length_filter_le (fun c => decide (c ≠ 0)) ((sp_bys x).take i)
  have h2 : ((sp_bys x).take i).length = i := by rw [List.length_take]; show min i 8 = i; omega
  omega
theorem sp_ct_sub {x : Int64} {i : Nat} (h : i ≤ 8) : ∀ c ∈ sp_ct x i, c ∈ sp_cs x := by
  intro c hc
  unfold sp_ct at hc
  rw [List.mem_filter] at hc
  exact List.mem_filter.mpr ⟨List.mem_of_mem_take hc.1, hc.2⟩
theorem sp_ct_len {x : Int64} {i : Nat} (h : i ≤ 8) : (sp_ct x i).length ≤ (sp_cs x).length := by
  rw [← sp_ct_8]
  unfold sp_ct
  have e : (sp_bys x).take i = ((sp_bys x).take 8).take i := by rw [List.take_take, Nat.min_eq_left h]
  rw [e]
  exact ((List.take_sublist i _).filter _).length_le
theorem sp_cs_sm (x : Int64) : gx_sm (sp_cs x) := fun c hc => by
  have h1 := (List.mem_filter.mp hc).1
  unfold sp_bys at h1
  simp only [List.mem_cons, List.not_mem_nil, or_false] at h1
  have b := sp_by_lt x
  rcases h1 with rfl | rfl | rfl | rfl | rfl | rfl | rfl | rfl <;> exact Nat.lt_of_lt_of_le (b _) (by decide)
theorem d_PC_type_0 : decode prog_1_method_16_code 0 = .ok (.iconst 0, 1) := by decide +kernel
theorem d_PC_type_1 : decode prog_1_method_16_code 1 = .ok (.istore_n 3, 1) := by decide +kernel
theorem d_PC_type_2 : decode prog_1_method_16_code 2 = .ok (.iconst 0, 1) := by decide +kernel
theorem d_PC_type_3 : decode prog_1_method_16_code 3 = .ok (.istore 4, 2) := by decide +kernel
theorem d_PC_type_5 : decode prog_1_method_16_code 5 = .ok (.iload 4, 2) := by decide +kernel
theorem d_PC_type_7 : decode prog_1_method_16_code 7 = .ok (.bipush 8, 2) := by decide +kernel
theorem d_PC_type_9 : decode prog_1_method_16_code 9 = .ok (.if_icmp .ge 47, 3) := by decide +kernel
theorem d_PC_type_12 : decode prog_1_method_16_code 12 = .ok (.lload_n 1, 1) := by decide +kernel
theorem d_PC_type_13 : decode prog_1_method_16_code 13 = .ok (.iload 4, 2) := by decide +kernel
theorem d_PC_type_15 : decode prog_1_method_16_code 15 = .ok (.invokestatic 175, 3) := by decide +kernel
theorem d_PC_type_18 : decode prog_1_method_16_code 18 = .ok (.istore 5, 2) := by decide +kernel
theorem d_PC_type_20 : decode prog_1_method_16_code 20 = .ok (.iload 5, 2) := by decide +kernel
theorem d_PC_type_22 : decode prog_1_method_16_code 22 = .ok (.ifCond .eq 15, 3) := by decide +kernel
theorem d_PC_type_25 : decode prog_1_method_16_code 25 = .ok (.ldc 179, 2) := by decide +kernel
theorem d_PC_type_27 : decode prog_1_method_16_code 27 = .ok (.iload 5, 2) := by decide +kernel
theorem d_PC_type_29 : decode prog_1_method_16_code 29 = .ok (.invokevirtual 181, 3) := by decide +kernel
theorem d_PC_type_32 : decode prog_1_method_16_code 32 = .ok (.ifCond .ge 5, 3) := by decide +kernel
theorem d_PC_type_35 : decode prog_1_method_16_code 35 = .ok (.iconst 0, 1) := by decide +kernel
theorem d_PC_type_36 : decode prog_1_method_16_code 36 = .ok (.ireturn, 1) := by decide +kernel
theorem d_PC_type_37 : decode prog_1_method_16_code 37 = .ok (.iload_n 3, 1) := by decide +kernel
theorem d_PC_type_38 : decode prog_1_method_16_code 38 = .ok (.iload 5, 2) := by decide +kernel
theorem d_PC_type_40 : decode prog_1_method_16_code 40 = .ok (.ifCond .ne 7, 3) := by decide +kernel
theorem d_PC_type_43 : decode prog_1_method_16_code 43 = .ok (.iconst 0, 1) := by decide +kernel
theorem d_PC_type_44 : decode prog_1_method_16_code 44 = .ok (.goto 4, 3) := by decide +kernel
theorem d_PC_type_47 : decode prog_1_method_16_code 47 = .ok (.iconst 1, 1) := by decide +kernel
theorem d_PC_type_48 : decode prog_1_method_16_code 48 = .ok (.iadd, 1) := by decide +kernel
theorem d_PC_type_49 : decode prog_1_method_16_code 49 = .ok (.istore_n 3, 1) := by decide +kernel
theorem d_PC_type_50 : decode prog_1_method_16_code 50 = .ok (.iinc 4 1, 3) := by decide +kernel
theorem d_PC_type_53 : decode prog_1_method_16_code 53 = .ok (.goto (-48), 3) := by decide +kernel
theorem d_PC_type_56 : decode prog_1_method_16_code 56 = .ok (.aload_n 0, 1) := by decide +kernel
theorem d_PC_type_57 : decode prog_1_method_16_code 57 = .ok (.getfield 56, 3) := by decide +kernel
theorem d_PC_type_60 : decode prog_1_method_16_code 60 = .ok (.invokevirtual 186, 3) := by decide +kernel
theorem d_PC_type_63 : decode prog_1_method_16_code 63 = .ok (.iload_n 3, 1) := by decide +kernel
theorem d_PC_type_64 : decode prog_1_method_16_code 64 = .ok (.iadd, 1) := by decide +kernel
theorem d_PC_type_65 : decode prog_1_method_16_code 65 = .ok (.bipush 60, 2) := by decide +kernel
theorem d_PC_type_67 : decode prog_1_method_16_code 67 = .ok (.if_icmp .le 5, 3) := by decide +kernel
theorem d_PC_type_70 : decode prog_1_method_16_code 70 = .ok (.iconst 0, 1) := by decide +kernel
theorem d_PC_type_71 : decode prog_1_method_16_code 71 = .ok (.ireturn, 1) := by decide +kernel
theorem d_PC_type_72 : decode prog_1_method_16_code 72 = .ok (.iconst 0, 1) := by decide +kernel
theorem d_PC_type_73 : decode prog_1_method_16_code 73 = .ok (.istore 4, 2) := by decide +kernel
theorem d_PC_type_75 : decode prog_1_method_16_code 75 = .ok (.iload 4, 2) := by decide +kernel
theorem d_PC_type_77 : decode prog_1_method_16_code 77 = .ok (.bipush 8, 2) := by decide +kernel
theorem d_PC_type_79 : decode prog_1_method_16_code 79 = .ok (.if_icmp .ge 32, 3) := by decide +kernel
theorem d_PC_type_82 : decode prog_1_method_16_code 82 = .ok (.lload_n 1, 1) := by decide +kernel
theorem d_PC_type_83 : decode prog_1_method_16_code 83 = .ok (.iload 4, 2) := by decide +kernel
theorem d_PC_type_85 : decode prog_1_method_16_code 85 = .ok (.invokestatic 175, 3) := by decide +kernel
theorem d_PC_type_88 : decode prog_1_method_16_code 88 = .ok (.istore 5, 2) := by decide +kernel
theorem d_PC_type_90 : decode prog_1_method_16_code 90 = .ok (.iload 5, 2) := by decide +kernel
theorem d_PC_type_92 : decode prog_1_method_16_code 92 = .ok (.ifCond .eq 13, 3) := by decide +kernel
theorem d_PC_type_95 : decode prog_1_method_16_code 95 = .ok (.aload_n 0, 1) := by decide +kernel
theorem d_PC_type_96 : decode prog_1_method_16_code 96 = .ok (.getfield 56, 3) := by decide +kernel
theorem d_PC_type_99 : decode prog_1_method_16_code 99 = .ok (.iload 5, 2) := by decide +kernel
theorem d_PC_type_101 : decode prog_1_method_16_code 101 = .ok (.invokevirtual 187, 3) := by decide +kernel
theorem d_PC_type_104 : decode prog_1_method_16_code 104 = .ok (.pop, 1) := by decide +kernel
theorem d_PC_type_105 : decode prog_1_method_16_code 105 = .ok (.iinc 4 1, 3) := by decide +kernel
theorem d_PC_type_108 : decode prog_1_method_16_code 108 = .ok (.goto (-33), 3) := by decide +kernel
theorem d_PC_type_111 : decode prog_1_method_16_code 111 = .ok (.iconst 1, 1) := by decide +kernel
theorem d_PC_type_112 : decode prog_1_method_16_code 112 = .ok (.ireturn, 1) := by decide +kernel
theorem lp_type1 {Q : gx_P} {w : gx_W} {B : Nat} {x : Int64} : ∀ (fu : Nat) (i : Nat) (L5 : Option Value), 8 - i < fu → (i ≤ 8) → (∀ c ∈ sp_ct x i, c ∈ gx_abN) → (gx_c1 [some (.ref B), some (.long x), none, none, none, L5] 5 = true) → (¬ (∀ c ∈ sp_cs x, c ∈ gx_abN) → Q.1 (some (.int (nI 0))) w) → (∀ L5, (∀ c ∈ sp_cs x, c ∈ gx_abN) → gx_X (fun _ _ => True) M_PC_type 5 Q 56 [some (.ref B), some (.long x), none, some (.int (nI (sp_cs x).length)), some (.int (nI 8)), L5] [] w (0, 0)) → gx_X (fun _ _ => True) M_PC_type 5 Q 5 [some (.ref B), some (.long x), none, some (.int (nI (sp_ct x i).length)), some (.int (nI i)), L5] [] w (0, 0) := by
  intro fu
  induction fu with
  | zero => intro i L5 hfu; exact absurd hfu (Nat.not_lt_zero _)
  | succ fu ih =>
    intro i L5 hfu hi hal hL5 hbad hX
    have hlt := sp_by_lt x (7 - i)
    have hle := sp_ct_le x i hi
    refine gx_iload d_PC_type_5 rfl ?_
    refine gx_bipush d_PC_type_7 (nI 8) (by decide) ?_
    refine gx_icmp_geN (by omega) (by omega) (tgt := 56) d_PC_type_9 (by decide) (fun h9 => ?_) (fun h9 => ?_)
    · have e : i = 8 := by omega
      subst e
      rw [sp_ct_8] at hal ⊢
      exact hX _ hal
    · refine gx_lload_n d_PC_type_12 rfl ?_
      refine gx_iload d_PC_type_13 rfl ?_
      refine gx_cS1 lk_PC_175 d_PC_type_15 (ct_byteOf (show i < 8 by omega)) (by omega) rfl rfl (Nat.le_of_ble_eq_true rfl) ?_
      refine gx_istore d_PC_type_18 (Nat.le_of_ble_eq_true rfl) rfl ?_
      refine gx_iload d_PC_type_20 rfl ?_
      refine gx_if_eqN (by omega) (tgt := 37) d_PC_type_22 (by decide) (fun h22 => ?_) (fun h22 => ?_)
      · refine gx_iload_n d_PC_type_37 rfl ?_
        refine gx_iload d_PC_type_38 rfl ?_
        refine gx_if_neN (by omega) (tgt := 47) d_PC_type_40 (by decide) (fun h40 => ?_) (fun h40 => ?_)
        · exact absurd h22 h40
        · refine gx_iconst d_PC_type_43 (nI 0) (by decide) ?_
          refine gx_goto (tgt := 48) d_PC_type_44 (by decide) ?_
          refine gx_iaddN d_PC_type_48 ?_
          refine gx_istore_n d_PC_type_49 (Nat.le_of_ble_eq_true rfl) rfl ?_
          refine gx_iincN (n := 1) d_PC_type_50 rfl (by decide) (Nat.le_of_ble_eq_true rfl) rfl ?_
          refine gx_goto (tgt := 5) d_PC_type_53 (by decide) ?_
          have ec : sp_ct x (i + 1) = sp_ct x i := by rw [sp_ct_s (by omega), if_pos h22, List.append_nil]
          refine gx_L (L' := [some (.ref B), some (.long x), none, some (.int (nI (sp_ct x (i + 1)).length)), some (.int (nI (i + 1))), some (.int (nI (sp_by x (7 - i))))]) (by rw [ec]; rfl) ?_
          exact ih (i + 1) _ (by omega) (by omega) (by rw [ec]; exact hal) rfl hbad hX
      · refine gx_ldcA rfl d_PC_type_25 (fun aK aV => ?_)
        refine gx_iload d_PC_type_27 rfl ?_
        refine gx_callY (n := 1) co_S_ix1 im_S_ix1 se_S_ix1 mk_PC_181 ⟨by decide, by decide⟩ (by decide) (by unfold gx_np; decide +kernel) d_PC_type_29 (by decide +kernel) (by decide +kernel) (as := [.int (nI (sp_by x (7 - i)))]) (sx_ix1 (show sp_by x (7 - i) < 256 from hlt)) (Nat.le_of_ble_eq_true rfl) (by omega) rfl rfl (Nat.le_of_ble_eq_true rfl) (fun r2 w2 hq => ?_)
        obtain ⟨rfl, r, rfl, hr⟩ := hq
        refine gx_wkF ?_
        refine gx_if_ge (tgt := 37) d_PC_type_32 (by decide) (fun h32 => ?_) (fun h32 => ?_)
        · have hin := hr.mp (fun g => by
            rw [Int32.lt_iff_toInt_lt] at g
            rw [Int32.le_iff_toInt_le] at h32
            omega)
          refine gx_iload_n d_PC_type_37 rfl ?_
          refine gx_iload d_PC_type_38 rfl ?_
          refine gx_if_neN (by omega) (tgt := 47) d_PC_type_40 (by decide) (fun h40 => ?_) (fun h40 => ?_)
          · refine gx_iconst d_PC_type_47 (nI 1) (by decide) ?_
            refine gx_iaddN d_PC_type_48 ?_
            refine gx_istore_n d_PC_type_49 (Nat.le_of_ble_eq_true rfl) rfl ?_
            refine gx_iincN (n := 1) d_PC_type_50 rfl (by decide) (Nat.le_of_ble_eq_true rfl) rfl ?_
            refine gx_goto (tgt := 5) d_PC_type_53 (by decide) ?_
            have ec : sp_ct x (i + 1) = sp_ct x i ++ [sp_by x (7 - i)] := by rw [sp_ct_s (by omega), if_neg h22]
            refine gx_L (L' := [some (.ref B), some (.long x), none, some (.int (nI (sp_ct x (i + 1)).length)), some (.int (nI (i + 1))), some (.int (nI (sp_by x (7 - i))))]) (by rw [ec, List.length_append]; rfl) ?_
            exact ih (i + 1) _ (by omega) (by omega) (by rw [ec]; exact fun c hc => (List.mem_append.mp hc).elim (hal c) (fun g => by rw [List.mem_singleton.mp g]; exact hin)) rfl hbad hX
          · exact absurd h40 h22
        · refine gx_iconst d_PC_type_35 (nI 0) (by decide) ?_
          refine gx_zreturn rfl gx_nz0 d_PC_type_36 ?_
          exact hbad (fun g => h32 (by
            have := hr.mpr (g _ (List.mem_filter.mpr ⟨by rw [← sp_bys_at (show i < 8 by omega)]; exact gx_gd_mem (show i < (sp_bys x).length from by show i < 8; omega), by simpa using h22⟩))
            rw [Int32.lt_iff_toInt_lt] at this
            rw [Int32.le_iff_toInt_le]
            have z : (0 : Int32).toInt = 0 := rfl
            omega))
theorem lp_type2 {Q : gx_P} {B : Nat} {x : Int64} {tp : List Nat} (htp : tp.length + (sp_cs x).length ≤ 60) : ∀ (fu : Nat) (i : Nat) (w : gx_W) (L3 : Int32) (L5 : Option Value), 8 - i < fu → (i ≤ 8) → (w.1 B = some (pcO B)) → (w.1 (B + 354) = some (gx_bx 0 60 (tp ++ sp_ct x i))) → (Q.1 (some (.int (nI 1))) (gx_st w (B + 354) (gx_bx 0 60 (tp ++ sp_cs x)))) → gx_X (fun _ _ => True) M_PC_type 5 Q 75 [some (.ref B), some (.long x), none, some (.int L3), some (.int (nI i)), L5] [] w (0, 0) := by
  intro fu
  induction fu with
  | zero => intro i w L3 L5 hfu; exact absurd hfu (Nat.not_lt_zero _)
  | succ fu ih =>
    intro i w L3 L5 hfu hi h0 hw hQ
    have hlt := sp_by_lt x (7 - i)
    have hle := sp_ct_le x i hi
    refine gx_iload d_PC_type_75 rfl ?_
    refine gx_bipush d_PC_type_77 (nI 8) (by decide) ?_
    refine gx_icmp_geN (by omega) (by omega) (tgt := 111) d_PC_type_79 (by decide) (fun h79 => ?_) (fun h79 => ?_)
    · refine gx_iconst d_PC_type_111 (nI 1) (by decide) ?_
      refine gx_zreturn rfl gx_nz1 d_PC_type_112 ?_
      have e : i = 8 := by omega
      subst e
      rw [sp_ct_8] at hw
      rw [gx_st_id hw] at hQ
      exact hQ
    · refine gx_lload_n d_PC_type_82 rfl ?_
      refine gx_iload d_PC_type_83 rfl ?_
      refine gx_cS1 lk_PC_175 d_PC_type_85 (ct_byteOf (show i < 8 by omega)) (by omega) rfl rfl (Nat.le_of_ble_eq_true rfl) ?_
      refine gx_istore d_PC_type_88 (Nat.le_of_ble_eq_true rfl) rfl ?_
      refine gx_iload d_PC_type_90 rfl ?_
      refine gx_if_eqN (by omega) (tgt := 105) d_PC_type_92 (by decide) (fun h92 => ?_) (fun h92 => ?_)
      · have ec : sp_ct x (i + 1) = sp_ct x i := by rw [sp_ct_s (by omega), if_pos h92, List.append_nil]
        refine gx_iincN (n := 1) d_PC_type_105 rfl (by decide) (Nat.le_of_ble_eq_true rfl) rfl ?_
        refine gx_goto (tgt := 75) d_PC_type_108 (by decide) ?_
        exact ih (i + 1) w _ _ (by omega) (by omega) h0 (by rw [ec]; exact hw) hQ
      · have ec : sp_ct x (i + 1) = sp_ct x i ++ [sp_by x (7 - i)] := by rw [sp_ct_s (by omega), if_neg h92]
        have hcl : (tp ++ sp_ct x i).length < 60 := by
          have h5 := sp_ct_len (x := x) (i := i + 1) (by omega)
          rw [ec, List.length_append, List.length_singleton] at h5
          rw [List.length_append]; omega
        refine gx_aload_n d_PC_type_95 rfl ?_
        refine gx_get fl_PC_56 d_PC_type_96 h0 rfl ?_
        refine gx_iload d_PC_type_99 rfl ?_
        refine gx_cV1 lk_PC_187 d_PC_type_101 (ct_Word_add hw (by omega) hcl) (Or.inr ⟨_, _, hw⟩) (by omega) rfl rfl (Nat.le_of_ble_eq_true rfl) ?_
        refine gx_pop d_PC_type_104 rfl ?_
        refine gx_iincN (n := 1) d_PC_type_105 rfl (by decide) (Nat.le_of_ble_eq_true rfl) rfl ?_
        refine gx_goto (tgt := 75) d_PC_type_108 (by decide) ?_
        refine ih (i + 1) _ _ _ (by omega) (by omega) (by rw [gx_st_ne (by omega)]; exact h0) (by rw [ec, ← List.append_assoc]; exact gx_st_eq) ?_
        rw [gx_st_st]; exact hQ
theorem ct_type {w : gx_W} {B : Nat} {S : sp_St} (h : pcS w B S) (hS : sp_Sok S) {x : Int64} : gx_Ct M_PC_type 5 0 0 [.ref B, .long x] w (fun v w' => v = some (.int (nI (op_type S x).1)) ∧ pcS w' B (op_type S x).2 ∧ gx_kp w w' B (B + 360)) := by
  refine gx_ct (L := [some (.ref B), some (.long x), none, none, none, none]) (by decide) (Nat.le_of_ble_eq_true rfl) rfl ?_
  have hcl := sp_ct_le x 8 (Nat.le_refl _)
  rw [sp_ct_8] at hcl
  have htl := hS.2.2.2.2
  unfold op_type
  refine gx_iconst d_PC_type_0 (nI 0) (by decide) ?_
  refine gx_istore_n d_PC_type_1 (Nat.le_of_ble_eq_true rfl) rfl ?_
  refine gx_iconst d_PC_type_2 (nI 0) (by decide) ?_
  refine gx_istore d_PC_type_3 (Nat.le_of_ble_eq_true rfl) rfl ?_
  refine lp_type1 9 0 none (by omega) (by omega) (fun c hc => by cases hc) rfl ?_ (fun L5 hal => ?_)
  · intro hb
    rw [if_neg (fun g => hb g.1)]
    exact ⟨rfl, h, gx_kp.rf⟩
  · refine gx_aload_n d_PC_type_56 rfl ?_
    refine gx_get fl_PC_56 d_PC_type_57 h.1.1 rfl ?_
    refine gx_cV1 lk_PC_186 d_PC_type_60 (ct_Word_size h.1.2.2.2.2.2.2.2) (Or.inr ⟨_, _, h.1.2.2.2.2.2.2.2⟩) (by omega) rfl rfl (Nat.le_of_ble_eq_true rfl) ?_
    refine gx_iload_n d_PC_type_63 rfl ?_
    refine gx_iaddN d_PC_type_64 ?_
    refine gx_bipush d_PC_type_65 (nI 60) (by decide) ?_
    refine gx_icmp_leN (by omega) (by omega) (tgt := 72) d_PC_type_67 (by decide) (fun h67 => ?_) (fun h67 => ?_)
    · refine gx_iconst d_PC_type_72 (nI 0) (by decide) ?_
      refine gx_istore d_PC_type_73 (Nat.le_of_ble_eq_true rfl) rfl ?_
      exact lp_type2 h67 9 0 w _ _ (by omega) (by omega) h.1.1 (by rw [show sp_ct x 0 = [] from rfl, List.append_nil]; exact h.1.2.2.2.2.2.2.2) (by rw [if_pos ⟨hal, h67⟩]; exact ⟨rfl, pcAt.typed _ h, gx_kp.st (by omega) (by omega)⟩)
    · refine gx_iconst d_PC_type_70 (nI 0) (by decide) ?_
      refine gx_zreturn rfl gx_nz0 d_PC_type_71 ?_
      rw [if_neg (fun g => h67 g.2)]
      exact ⟨rfl, h, gx_kp.rf⟩
