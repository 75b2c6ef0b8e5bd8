abbrev rm_H_init : Room := { frames := 1, cells := 1, slots := 96, locals := 12 }
abbrev rm_A_init : Room := { frames := 1, cells := 2, slots := 6, locals := 12 }
abbrev rm_R_init : Room := { frames := 1, cells := 4, slots := 96, locals := 12 }
abbrev rm_D_init : Room := { frames := 1, cells := 1, slots := 48, locals := 12 }
abbrev rm_P_init : Room := { frames := 2, cells := 6, slots := 18, locals := 32 }
abbrev rm_X_init : Room := { frames := 3, cells := 59, slots := 1127, locals := 52 }
abbrev rm_M_init : Room := { frames := 1, cells := 20, slots := 2316, locals := 12 }
theorem z_bi96 : (Int8.ofInt (96)).toInt32 = 96 := by decide
theorem z_q96 : (96 : Int32).toNatClampNeg = 96 := by decide
theorem z_q48 : (48 : Int32).toNatClampNeg = 48 := by decide
theorem dp_A_init : y_A_init.cls ≠ "java/lang/invoke/MethodHandle" ∧ y_A_init.cls ≠ "java/lang/invoke/VarHandle" ∧ (parseMethodDescriptor y_A_init.desc).map (fun d => d.parameters.length) = some 0 := by decide +kernel
theorem z_q6 : (6 : Int32).toNatClampNeg = 6 := by decide
theorem dp_R_init : y_R_init.cls ≠ "java/lang/invoke/MethodHandle" ∧ y_R_init.cls ≠ "java/lang/invoke/VarHandle" ∧ (parseMethodDescriptor y_R_init.desc).map (fun d => d.parameters.length) = some 0 := by decide +kernel
theorem z_si513 : (Int16.ofInt (513)).toInt32 = 513 := by decide
theorem z_q513 : (513 : Int32).toNatClampNeg = 513 := by decide
theorem dp_D_init : y_D_init.cls ≠ "java/lang/invoke/MethodHandle" ∧ y_D_init.cls ≠ "java/lang/invoke/VarHandle" ∧ (parseMethodDescriptor y_D_init.desc).map (fun d => d.parameters.length) = some 0 := by decide +kernel
theorem dp_H_init : y_H_init.cls ≠ "java/lang/invoke/MethodHandle" ∧ y_H_init.cls ≠ "java/lang/invoke/VarHandle" ∧ (parseMethodDescriptor y_H_init.desc).map (fun d => d.parameters.length) = some 0 := by decide +kernel
theorem dp_P_init : y_P_init.cls ≠ "java/lang/invoke/MethodHandle" ∧ y_P_init.cls ≠ "java/lang/invoke/VarHandle" ∧ (parseMethodDescriptor y_P_init.desc).map (fun d => d.parameters.length) = some 0 := by decide +kernel
theorem z_si1152 : (Int16.ofInt (1152)).toInt32 = 1152 := by decide
theorem z_q1152 : (1152 : Int32).toNatClampNeg = 1152 := by decide
theorem z_si600 : (Int16.ofInt (600)).toInt32 = 600 := by decide
theorem z_q600 : (600 : Int32).toNatClampNeg = 600 := by decide
theorem z_bi18 : (Int8.ofInt (18)).toInt32 = 18 := by decide
theorem z_q18 : (18 : Int32).toNatClampNeg = 18 := by decide
theorem z_si144 : (Int16.ofInt (144)).toInt32 = 144 := by decide
theorem z_q144 : (144 : Int32).toNatClampNeg = 144 := by decide
theorem z_bi25 : (Int8.ofInt (25)).toInt32 = 25 := by decide
theorem z_q25 : (25 : Int32).toNatClampNeg = 25 := by decide
theorem z_si200 : (Int16.ofInt (200)).toInt32 = 200 := by decide
theorem z_q200 : (200 : Int32).toNatClampNeg = 200 := by decide
theorem wm_H_3 : Cond.methodLink R_H 3 objectInit ∈ z_T := z_inT (z_intb (i := 72) (by decide +kernel)) rfl
theorem wi_obj : Cond.instanceMethod objectInit ∈ z_T := z_inT (z_intb (i := 15) (by decide +kernel)) rfl
set_option maxRecDepth 20000 in
theorem wc_obj : Cond.code objectInit ⟨#[0xb1]⟩ 1 none ∈ z_T := z_inT (z_intb (i := 16) rfl) rfl
theorem wf_H_9 : Cond.fieldLink R_H 9 R_H "isOpen" "Z" ∈ z_T := z_inT (z_intb (i := 73) (by decide +kernel)) rfl
theorem wa_int : Cond.arrayClass .int ∈ z_T := z_inT (z_intb (i := 46) (by decide +kernel)) rfl
theorem wm_A_3 : Cond.methodLink R_A 3 objectInit ∈ z_T := z_inT (z_intb (i := 95) (by decide +kernel)) rfl
theorem wa_boolean : Cond.arrayClass .boolean ∈ z_T := z_inT (z_intb (i := 109) (by decide +kernel)) rfl
theorem wa_long : Cond.arrayClass .long ∈ z_T := z_inT (z_intb (i := 47) (by decide +kernel)) rfl
theorem wm_R_3 : Cond.methodLink R_R 3 objectInit ∈ z_T := z_inT (z_intb (i := 24) (by decide +kernel)) rfl
theorem wm_D_3 : Cond.methodLink R_D 3 objectInit ∈ z_T := z_inT (z_intb (i := 55) (by decide +kernel)) rfl
theorem wm_P_3 : Cond.methodLink R_P 3 objectInit ∈ z_T := z_inT (z_intb (i := 89) (by decide +kernel)) rfl
theorem wq_P_28 : Cond.classLink R_P 28 R_A ∈ z_T := z_inT (z_intb (i := 90) (by decide +kernel)) rfl
theorem wb_A : Cond.instantiable R_A 3 ∈ z_T := z_inT (z_intb (i := 91) (by decide +kernel)) rfl
theorem wi_A_init : Cond.instanceMethod y_A_init ∈ z_T := z_inT (z_intb (i := 93) (by decide +kernel)) rfl
set_option maxRecDepth 20000 in
theorem wc_A_init : Cond.code y_A_init b_A_init 1 none ∈ z_T := z_inT (z_intb (i := 94) rfl) rfl
theorem wm_X_1 : Cond.methodLink R_X 1 objectInit ∈ z_T := z_inT (z_intb (i := 14) (by decide +kernel)) rfl
theorem wq_X_9 : Cond.classLink R_X 9 R_H ∈ z_T := z_inT (z_intb (i := 17) (by decide +kernel)) rfl
theorem wq_X_19 : Cond.classLink R_X 19 R_R ∈ z_T := z_inT (z_intb (i := 19) (by decide +kernel)) rfl
theorem wb_R : Cond.instantiable R_R 5 ∈ z_T := z_inT (z_intb (i := 20) (by decide +kernel)) rfl
theorem wi_R_init : Cond.instanceMethod y_R_init ∈ z_T := z_inT (z_intb (i := 22) (by decide +kernel)) rfl
set_option maxRecDepth 20000 in
theorem wc_R_init : Cond.code y_R_init b_R_init 1 none ∈ z_T := z_inT (z_intb (i := 23) rfl) rfl
theorem wq_X_26 : Cond.classLink R_X 26 R_P ∈ z_T := z_inT (z_intb (i := 48) (by decide +kernel)) rfl
theorem wq_X_35 : Cond.classLink R_X 35 R_D ∈ z_T := z_inT (z_intb (i := 50) (by decide +kernel)) rfl
theorem wb_D : Cond.instantiable R_D 3 ∈ z_T := z_inT (z_intb (i := 51) (by decide +kernel)) rfl
theorem wi_D_init : Cond.instanceMethod y_D_init ∈ z_T := z_inT (z_intb (i := 53) (by decide +kernel)) rfl
set_option maxRecDepth 20000 in
theorem wc_D_init : Cond.code y_D_init b_D_init 1 none ∈ z_T := z_inT (z_intb (i := 54) rfl) rfl
theorem wb_H : Cond.instantiable R_H 3 ∈ z_T := z_inT (z_intb (i := 68) (by decide +kernel)) rfl
theorem wi_H_init : Cond.instanceMethod y_H_init ∈ z_T := z_inT (z_intb (i := 70) (by decide +kernel)) rfl
set_option maxRecDepth 20000 in
theorem wc_H_init : Cond.code y_H_init b_H_init 1 none ∈ z_T := z_inT (z_intb (i := 71) rfl) rfl
theorem wb_P : Cond.instantiable R_P 7 ∈ z_T := z_inT (z_intb (i := 85) (by decide +kernel)) rfl
theorem wi_P_init : Cond.instanceMethod y_P_init ∈ z_T := z_inT (z_intb (i := 87) (by decide +kernel)) rfl
set_option maxRecDepth 20000 in
theorem wc_P_init : Cond.code y_P_init b_P_init 1 none ∈ z_T := z_inT (z_intb (i := 88) rfl) rfl
theorem wm_M_1 : Cond.methodLink R_M 1 objectInit ∈ z_T := z_inT (z_intb (i := 409) (by decide +kernel)) rfl
theorem d_H_init_0 : decode b_H_init 0 = .ok (.aload_n 0, 1) := by decide +kernel
theorem d_H_init_1 : decode b_H_init 1 = .ok (.invokespecial 3, 3) := by decide +kernel
theorem d_H_init_4 : decode b_H_init 4 = .ok (.aload_n 0, 1) := by decide +kernel
theorem d_H_init_5 : decode b_H_init 5 = .ok (.iconst 1, 1) := by decide +kernel
theorem d_H_init_6 : decode b_H_init 6 = .ok (.putfield 9, 3) := by decide +kernel
theorem d_H_init_9 : decode b_H_init 9 = .ok (.aload_n 0, 1) := by decide +kernel
theorem d_H_init_10 : decode b_H_init 10 = .ok (.iconst 0, 1) := by decide +kernel
theorem d_H_init_11 : decode b_H_init 11 = .ok (.putfield 15, 3) := by decide +kernel
theorem d_H_init_14 : decode b_H_init 14 = .ok (.aload_n 0, 1) := by decide +kernel
theorem d_H_init_15 : decode b_H_init 15 = .ok (.bipush 96, 2) := by decide +kernel
theorem d_H_init_17 : decode b_H_init 17 = .ok (.newarray .int, 2) := by decide +kernel
theorem d_H_init_19 : decode b_H_init 19 = .ok (.putfield 19, 3) := by decide +kernel
theorem d_H_init_22 : decode b_H_init 22 = .ok (.return_, 1) := by decide +kernel
theorem d_A_init_0 : decode b_A_init 0 = .ok (.aload_n 0, 1) := by decide +kernel
theorem d_A_init_1 : decode b_A_init 1 = .ok (.invokespecial 3, 3) := by decide +kernel
theorem d_A_init_4 : decode b_A_init 4 = .ok (.aload_n 0, 1) := by decide +kernel
theorem d_A_init_5 : decode b_A_init 5 = .ok (.iconst 3, 1) := by decide +kernel
theorem d_A_init_6 : decode b_A_init 6 = .ok (.newarray .boolean, 2) := by decide +kernel
theorem d_A_init_8 : decode b_A_init 8 = .ok (.putfield 9, 3) := by decide +kernel
theorem d_A_init_11 : decode b_A_init 11 = .ok (.aload_n 0, 1) := by decide +kernel
theorem d_A_init_12 : decode b_A_init 12 = .ok (.iconst 3, 1) := by decide +kernel
theorem d_A_init_13 : decode b_A_init 13 = .ok (.newarray .long, 2) := by decide +kernel
theorem d_A_init_15 : decode b_A_init 15 = .ok (.putfield 15, 3) := by decide +kernel
theorem d_A_init_18 : decode b_A_init 18 = .ok (.aload_n 0, 1) := by decide +kernel
theorem d_A_init_19 : decode b_A_init 19 = .ok (.iconst 0, 1) := by decide +kernel
theorem d_A_init_20 : decode b_A_init 20 = .ok (.putfield 19, 3) := by decide +kernel
theorem d_A_init_23 : decode b_A_init 23 = .ok (.return_, 1) := by decide +kernel
theorem d_R_init_0 : decode b_R_init 0 = .ok (.aload_n 0, 1) := by decide +kernel
theorem d_R_init_1 : decode b_R_init 1 = .ok (.invokespecial 3, 3) := by decide +kernel
theorem d_R_init_4 : decode b_R_init 4 = .ok (.aload_n 0, 1) := by decide +kernel
theorem d_R_init_5 : decode b_R_init 5 = .ok (.bipush 24, 2) := by decide +kernel
theorem d_R_init_7 : decode b_R_init 7 = .ok (.newarray .int, 2) := by decide +kernel
theorem d_R_init_9 : decode b_R_init 9 = .ok (.putfield 9, 3) := by decide +kernel
theorem d_R_init_12 : decode b_R_init 12 = .ok (.aload_n 0, 1) := by decide +kernel
theorem d_R_init_13 : decode b_R_init 13 = .ok (.bipush 24, 2) := by decide +kernel
theorem d_R_init_15 : decode b_R_init 15 = .ok (.newarray .int, 2) := by decide +kernel
theorem d_R_init_17 : decode b_R_init 17 = .ok (.putfield 15, 3) := by decide +kernel
theorem d_R_init_20 : decode b_R_init 20 = .ok (.aload_n 0, 1) := by decide +kernel
theorem d_R_init_21 : decode b_R_init 21 = .ok (.bipush 24, 2) := by decide +kernel
theorem d_R_init_23 : decode b_R_init 23 = .ok (.newarray .int, 2) := by decide +kernel
theorem d_R_init_25 : decode b_R_init 25 = .ok (.putfield 18, 3) := by decide +kernel
theorem d_R_init_28 : decode b_R_init 28 = .ok (.aload_n 0, 1) := by decide +kernel
theorem d_R_init_29 : decode b_R_init 29 = .ok (.bipush 24, 2) := by decide +kernel
theorem d_R_init_31 : decode b_R_init 31 = .ok (.newarray .long, 2) := by decide +kernel
theorem d_R_init_33 : decode b_R_init 33 = .ok (.putfield 21, 3) := by decide +kernel
theorem d_R_init_36 : decode b_R_init 36 = .ok (.aload_n 0, 1) := by decide +kernel
theorem d_R_init_37 : decode b_R_init 37 = .ok (.iconst 0, 1) := by decide +kernel
theorem d_R_init_38 : decode b_R_init 38 = .ok (.putfield 25, 3) := by decide +kernel
theorem d_R_init_41 : decode b_R_init 41 = .ok (.return_, 1) := by decide +kernel
theorem d_D_init_0 : decode b_D_init 0 = .ok (.aload_n 0, 1) := by decide +kernel
theorem d_D_init_1 : decode b_D_init 1 = .ok (.invokespecial 3, 3) := by decide +kernel
theorem d_D_init_4 : decode b_D_init 4 = .ok (.aload_n 0, 1) := by decide +kernel
theorem d_D_init_5 : decode b_D_init 5 = .ok (.iconst 1, 1) := by decide +kernel
theorem d_D_init_6 : decode b_D_init 6 = .ok (.putfield 9, 3) := by decide +kernel
theorem d_D_init_9 : decode b_D_init 9 = .ok (.aload_n 0, 1) := by decide +kernel
theorem d_D_init_10 : decode b_D_init 10 = .ok (.iconst 0, 1) := by decide +kernel
theorem d_D_init_11 : decode b_D_init 11 = .ok (.putfield 15, 3) := by decide +kernel
theorem d_D_init_14 : decode b_D_init 14 = .ok (.aload_n 0, 1) := by decide +kernel
theorem d_D_init_15 : decode b_D_init 15 = .ok (.bipush 48, 2) := by decide +kernel
theorem d_D_init_17 : decode b_D_init 17 = .ok (.newarray .int, 2) := by decide +kernel
theorem d_D_init_19 : decode b_D_init 19 = .ok (.putfield 18, 3) := by decide +kernel
theorem d_D_init_22 : decode b_D_init 22 = .ok (.return_, 1) := by decide +kernel
theorem d_P_init_0 : decode b_P_init 0 = .ok (.aload_n 0, 1) := by decide +kernel
theorem d_P_init_1 : decode b_P_init 1 = .ok (.invokespecial 3, 3) := by decide +kernel
theorem d_P_init_4 : decode b_P_init 4 = .ok (.aload_n 0, 1) := by decide +kernel
theorem d_P_init_5 : decode b_P_init 5 = .ok (.iconst 0, 1) := by decide +kernel
theorem d_P_init_6 : decode b_P_init 6 = .ok (.putfield 9, 3) := by decide +kernel
theorem d_P_init_9 : decode b_P_init 9 = .ok (.aload_n 0, 1) := by decide +kernel
theorem d_P_init_10 : decode b_P_init 10 = .ok (.iconst 0, 1) := by decide +kernel
theorem d_P_init_11 : decode b_P_init 11 = .ok (.putfield 15, 3) := by decide +kernel
theorem d_P_init_14 : decode b_P_init 14 = .ok (.aload_n 0, 1) := by decide +kernel
theorem d_P_init_15 : decode b_P_init 15 = .ok (.iconst 0, 1) := by decide +kernel
theorem d_P_init_16 : decode b_P_init 16 = .ok (.putfield 18, 3) := by decide +kernel
theorem d_P_init_19 : decode b_P_init 19 = .ok (.aload_n 0, 1) := by decide +kernel
theorem d_P_init_20 : decode b_P_init 20 = .ok (.lconst 0, 1) := by decide +kernel
theorem d_P_init_21 : decode b_P_init 21 = .ok (.putfield 21, 3) := by decide +kernel
theorem d_P_init_24 : decode b_P_init 24 = .ok (.aload_n 0, 1) := by decide +kernel
theorem d_P_init_25 : decode b_P_init 25 = .ok (.iconst 0, 1) := by decide +kernel
theorem d_P_init_26 : decode b_P_init 26 = .ok (.putfield 25, 3) := by decide +kernel
theorem d_P_init_29 : decode b_P_init 29 = .ok (.aload_n 0, 1) := by decide +kernel
theorem d_P_init_30 : decode b_P_init 30 = .ok (.new 28, 3) := by decide +kernel
theorem d_P_init_33 : decode b_P_init 33 = .ok (.dup, 1) := by decide +kernel
theorem d_P_init_34 : decode b_P_init 34 = .ok (.invokespecial 30, 3) := by decide +kernel
theorem d_P_init_37 : decode b_P_init 37 = .ok (.putfield 31, 3) := by decide +kernel
theorem d_P_init_40 : decode b_P_init 40 = .ok (.aload_n 0, 1) := by decide +kernel
theorem d_P_init_41 : decode b_P_init 41 = .ok (.new 28, 3) := by decide +kernel
theorem d_P_init_44 : decode b_P_init 44 = .ok (.dup, 1) := by decide +kernel
theorem d_P_init_45 : decode b_P_init 45 = .ok (.invokespecial 30, 3) := by decide +kernel
theorem d_P_init_48 : decode b_P_init 48 = .ok (.putfield 35, 3) := by decide +kernel
theorem d_P_init_51 : decode b_P_init 51 = .ok (.return_, 1) := by decide +kernel
theorem d_X_init_0 : decode b_X_init 0 = .ok (.aload_n 0, 1) := by decide +kernel
theorem d_X_init_1 : decode b_X_init 1 = .ok (.invokespecial 1, 3) := by decide +kernel
theorem d_X_init_4 : decode b_X_init 4 = .ok (.aload_n 0, 1) := by decide +kernel
theorem d_X_init_5 : decode b_X_init 5 = .ok (.iconst 3, 1) := by decide +kernel
theorem d_X_init_6 : decode b_X_init 6 = .ok (.anewarray 9, 3) := by decide +kernel
theorem d_X_init_9 : decode b_X_init 9 = .ok (.putfield 11, 3) := by decide +kernel
theorem d_X_init_12 : decode b_X_init 12 = .ok (.aload_n 0, 1) := by decide +kernel
theorem d_X_init_13 : decode b_X_init 13 = .ok (.bipush 6, 2) := by decide +kernel
theorem d_X_init_15 : decode b_X_init 15 = .ok (.newarray .int, 2) := by decide +kernel
theorem d_X_init_17 : decode b_X_init 17 = .ok (.putfield 15, 3) := by decide +kernel
theorem d_X_init_20 : decode b_X_init 20 = .ok (.aload_n 0, 1) := by decide +kernel
theorem d_X_init_21 : decode b_X_init 21 = .ok (.new 19, 3) := by decide +kernel
theorem d_X_init_24 : decode b_X_init 24 = .ok (.dup, 1) := by decide +kernel
theorem d_X_init_25 : decode b_X_init 25 = .ok (.invokespecial 21, 3) := by decide +kernel
theorem d_X_init_28 : decode b_X_init 28 = .ok (.putfield 22, 3) := by decide +kernel
theorem d_X_init_31 : decode b_X_init 31 = .ok (.aload_n 0, 1) := by decide +kernel
theorem d_X_init_32 : decode b_X_init 32 = .ok (.bipush 6, 2) := by decide +kernel
theorem d_X_init_34 : decode b_X_init 34 = .ok (.anewarray 26, 3) := by decide +kernel
theorem d_X_init_37 : decode b_X_init 37 = .ok (.putfield 28, 3) := by decide +kernel
theorem d_X_init_40 : decode b_X_init 40 = .ok (.aload_n 0, 1) := by decide +kernel
theorem d_X_init_41 : decode b_X_init 41 = .ok (.sipush 513, 3) := by decide +kernel
theorem d_X_init_44 : decode b_X_init 44 = .ok (.newarray .int, 2) := by decide +kernel
theorem d_X_init_46 : decode b_X_init 46 = .ok (.putfield 32, 3) := by decide +kernel
theorem d_X_init_49 : decode b_X_init 49 = .ok (.aload_n 0, 1) := by decide +kernel
theorem d_X_init_50 : decode b_X_init 50 = .ok (.new 35, 3) := by decide +kernel
theorem d_X_init_53 : decode b_X_init 53 = .ok (.dup, 1) := by decide +kernel
theorem d_X_init_54 : decode b_X_init 54 = .ok (.invokespecial 37, 3) := by decide +kernel
theorem d_X_init_57 : decode b_X_init 57 = .ok (.putfield 38, 3) := by decide +kernel
theorem d_X_init_60 : decode b_X_init 60 = .ok (.aload_n 0, 1) := by decide +kernel
theorem d_X_init_61 : decode b_X_init 61 = .ok (.iconst 0, 1) := by decide +kernel
theorem d_X_init_62 : decode b_X_init 62 = .ok (.putfield 42, 3) := by decide +kernel
theorem d_X_init_65 : decode b_X_init 65 = .ok (.aload_n 0, 1) := by decide +kernel
theorem d_X_init_66 : decode b_X_init 66 = .ok (.iconst 0, 1) := by decide +kernel
theorem d_X_init_67 : decode b_X_init 67 = .ok (.putfield 46, 3) := by decide +kernel
theorem d_X_init_70 : decode b_X_init 70 = .ok (.iconst 0, 1) := by decide +kernel
theorem d_X_init_71 : decode b_X_init 71 = .ok (.istore_n 1, 1) := by decide +kernel
theorem d_X_init_72 : decode b_X_init 72 = .ok (.iload_n 1, 1) := by decide +kernel
theorem d_X_init_73 : decode b_X_init 73 = .ok (.iconst 3, 1) := by decide +kernel
theorem d_X_init_74 : decode b_X_init 74 = .ok (.if_icmp .ge 22, 3) := by decide +kernel
theorem d_X_init_77 : decode b_X_init 77 = .ok (.aload_n 0, 1) := by decide +kernel
theorem d_X_init_78 : decode b_X_init 78 = .ok (.getfield 11, 3) := by decide +kernel
theorem d_X_init_81 : decode b_X_init 81 = .ok (.iload_n 1, 1) := by decide +kernel
theorem d_X_init_82 : decode b_X_init 82 = .ok (.new 9, 3) := by decide +kernel
theorem d_X_init_85 : decode b_X_init 85 = .ok (.dup, 1) := by decide +kernel
theorem d_X_init_86 : decode b_X_init 86 = .ok (.invokespecial 49, 3) := by decide +kernel
theorem d_X_init_89 : decode b_X_init 89 = .ok (.aastore, 1) := by decide +kernel
theorem d_X_init_90 : decode b_X_init 90 = .ok (.iinc 1 1, 3) := by decide +kernel
theorem d_X_init_93 : decode b_X_init 93 = .ok (.goto (-21), 3) := by decide +kernel
theorem d_X_init_96 : decode b_X_init 96 = .ok (.iconst 0, 1) := by decide +kernel
theorem d_X_init_97 : decode b_X_init 97 = .ok (.istore_n 1, 1) := by decide +kernel
theorem d_X_init_98 : decode b_X_init 98 = .ok (.iload_n 1, 1) := by decide +kernel
theorem d_X_init_99 : decode b_X_init 99 = .ok (.bipush 6, 2) := by decide +kernel
theorem d_X_init_101 : decode b_X_init 101 = .ok (.if_icmp .ge 22, 3) := by decide +kernel
theorem d_X_init_104 : decode b_X_init 104 = .ok (.aload_n 0, 1) := by decide +kernel
theorem d_X_init_105 : decode b_X_init 105 = .ok (.getfield 28, 3) := by decide +kernel
theorem d_X_init_108 : decode b_X_init 108 = .ok (.iload_n 1, 1) := by decide +kernel
theorem d_X_init_109 : decode b_X_init 109 = .ok (.new 26, 3) := by decide +kernel
theorem d_X_init_112 : decode b_X_init 112 = .ok (.dup, 1) := by decide +kernel
theorem d_X_init_113 : decode b_X_init 113 = .ok (.invokespecial 50, 3) := by decide +kernel
theorem d_X_init_116 : decode b_X_init 116 = .ok (.aastore, 1) := by decide +kernel
theorem d_X_init_117 : decode b_X_init 117 = .ok (.iinc 1 1, 3) := by decide +kernel
theorem d_X_init_120 : decode b_X_init 120 = .ok (.goto (-22), 3) := by decide +kernel
theorem d_X_init_123 : decode b_X_init 123 = .ok (.return_, 1) := by decide +kernel
theorem d_M_init_0 : decode b_M_init 0 = .ok (.aload_n 0, 1) := by decide +kernel
theorem d_M_init_1 : decode b_M_init 1 = .ok (.invokespecial 1, 3) := by decide +kernel
theorem d_M_init_4 : decode b_M_init 4 = .ok (.aload_n 0, 1) := by decide +kernel
theorem d_M_init_5 : decode b_M_init 5 = .ok (.sipush 1152, 3) := by decide +kernel
theorem d_M_init_8 : decode b_M_init 8 = .ok (.newarray .int, 2) := by decide +kernel
theorem d_M_init_10 : decode b_M_init 10 = .ok (.putfield 7, 3) := by decide +kernel
theorem d_M_init_13 : decode b_M_init 13 = .ok (.aload_n 0, 1) := by decide +kernel
theorem d_M_init_14 : decode b_M_init 14 = .ok (.bipush 6, 2) := by decide +kernel
theorem d_M_init_16 : decode b_M_init 16 = .ok (.newarray .int, 2) := by decide +kernel
theorem d_M_init_18 : decode b_M_init 18 = .ok (.putfield 13, 3) := by decide +kernel
theorem d_M_init_21 : decode b_M_init 21 = .ok (.aload_n 0, 1) := by decide +kernel
theorem d_M_init_22 : decode b_M_init 22 = .ok (.iconst 3, 1) := by decide +kernel
theorem d_M_init_23 : decode b_M_init 23 = .ok (.newarray .boolean, 2) := by decide +kernel
theorem d_M_init_25 : decode b_M_init 25 = .ok (.dup, 1) := by decide +kernel
theorem d_M_init_26 : decode b_M_init 26 = .ok (.iconst 0, 1) := by decide +kernel
theorem d_M_init_27 : decode b_M_init 27 = .ok (.iconst 1, 1) := by decide +kernel
theorem d_M_init_28 : decode b_M_init 28 = .ok (.bastore, 1) := by decide +kernel
theorem d_M_init_29 : decode b_M_init 29 = .ok (.dup, 1) := by decide +kernel
theorem d_M_init_30 : decode b_M_init 30 = .ok (.iconst 1, 1) := by decide +kernel
theorem d_M_init_31 : decode b_M_init 31 = .ok (.iconst 1, 1) := by decide +kernel
theorem d_M_init_32 : decode b_M_init 32 = .ok (.bastore, 1) := by decide +kernel
theorem d_M_init_33 : decode b_M_init 33 = .ok (.dup, 1) := by decide +kernel
theorem d_M_init_34 : decode b_M_init 34 = .ok (.iconst 2, 1) := by decide +kernel
theorem d_M_init_35 : decode b_M_init 35 = .ok (.iconst 1, 1) := by decide +kernel
theorem d_M_init_36 : decode b_M_init 36 = .ok (.bastore, 1) := by decide +kernel
theorem d_M_init_37 : decode b_M_init 37 = .ok (.putfield 16, 3) := by decide +kernel
theorem d_M_init_40 : decode b_M_init 40 = .ok (.aload_n 0, 1) := by decide +kernel
theorem d_M_init_41 : decode b_M_init 41 = .ok (.sipush 600, 3) := by decide +kernel
theorem d_M_init_44 : decode b_M_init 44 = .ok (.newarray .int, 2) := by decide +kernel
theorem d_M_init_46 : decode b_M_init 46 = .ok (.putfield 20, 3) := by decide +kernel
theorem d_M_init_49 : decode b_M_init 49 = .ok (.aload_n 0, 1) := by decide +kernel
theorem d_M_init_50 : decode b_M_init 50 = .ok (.bipush 6, 2) := by decide +kernel
theorem d_M_init_52 : decode b_M_init 52 = .ok (.newarray .int, 2) := by decide +kernel
theorem d_M_init_54 : decode b_M_init 54 = .ok (.putfield 23, 3) := by decide +kernel
theorem d_M_init_57 : decode b_M_init 57 = .ok (.aload_n 0, 1) := by decide +kernel
theorem d_M_init_58 : decode b_M_init 58 = .ok (.bipush 6, 2) := by decide +kernel
theorem d_M_init_60 : decode b_M_init 60 = .ok (.newarray .int, 2) := by decide +kernel
theorem d_M_init_62 : decode b_M_init 62 = .ok (.putfield 26, 3) := by decide +kernel
theorem d_M_init_65 : decode b_M_init 65 = .ok (.aload_n 0, 1) := by decide +kernel
theorem d_M_init_66 : decode b_M_init 66 = .ok (.bipush 6, 2) := by decide +kernel
theorem d_M_init_68 : decode b_M_init 68 = .ok (.newarray .int, 2) := by decide +kernel
theorem d_M_init_70 : decode b_M_init 70 = .ok (.putfield 29, 3) := by decide +kernel
theorem d_M_init_73 : decode b_M_init 73 = .ok (.aload_n 0, 1) := by decide +kernel
theorem d_M_init_74 : decode b_M_init 74 = .ok (.bipush 6, 2) := by decide +kernel
theorem d_M_init_76 : decode b_M_init 76 = .ok (.newarray .long, 2) := by decide +kernel
theorem d_M_init_78 : decode b_M_init 78 = .ok (.putfield 32, 3) := by decide +kernel
theorem d_M_init_81 : decode b_M_init 81 = .ok (.aload_n 0, 1) := by decide +kernel
theorem d_M_init_82 : decode b_M_init 82 = .ok (.bipush 6, 2) := by decide +kernel
theorem d_M_init_84 : decode b_M_init 84 = .ok (.newarray .int, 2) := by decide +kernel
theorem d_M_init_86 : decode b_M_init 86 = .ok (.putfield 36, 3) := by decide +kernel
theorem d_M_init_89 : decode b_M_init 89 = .ok (.aload_n 0, 1) := by decide +kernel
theorem d_M_init_90 : decode b_M_init 90 = .ok (.bipush 6, 2) := by decide +kernel
theorem d_M_init_92 : decode b_M_init 92 = .ok (.newarray .int, 2) := by decide +kernel
theorem d_M_init_94 : decode b_M_init 94 = .ok (.putfield 39, 3) := by decide +kernel
theorem d_M_init_97 : decode b_M_init 97 = .ok (.aload_n 0, 1) := by decide +kernel
theorem d_M_init_98 : decode b_M_init 98 = .ok (.bipush 6, 2) := by decide +kernel
theorem d_M_init_100 : decode b_M_init 100 = .ok (.newarray .int, 2) := by decide +kernel
theorem d_M_init_102 : decode b_M_init 102 = .ok (.putfield 42, 3) := by decide +kernel
theorem d_M_init_105 : decode b_M_init 105 = .ok (.aload_n 0, 1) := by decide +kernel
theorem d_M_init_106 : decode b_M_init 106 = .ok (.bipush 18, 2) := by decide +kernel
theorem d_M_init_108 : decode b_M_init 108 = .ok (.newarray .long, 2) := by decide +kernel
theorem d_M_init_110 : decode b_M_init 110 = .ok (.putfield 45, 3) := by decide +kernel
theorem d_M_init_113 : decode b_M_init 113 = .ok (.aload_n 0, 1) := by decide +kernel
theorem d_M_init_114 : decode b_M_init 114 = .ok (.sipush 144, 3) := by decide +kernel
theorem d_M_init_117 : decode b_M_init 117 = .ok (.newarray .int, 2) := by decide +kernel
theorem d_M_init_119 : decode b_M_init 119 = .ok (.putfield 48, 3) := by decide +kernel
theorem d_M_init_122 : decode b_M_init 122 = .ok (.aload_n 0, 1) := by decide +kernel
theorem d_M_init_123 : decode b_M_init 123 = .ok (.bipush 25, 2) := by decide +kernel
theorem d_M_init_125 : decode b_M_init 125 = .ok (.newarray .int, 2) := by decide +kernel
theorem d_M_init_127 : decode b_M_init 127 = .ok (.putfield 51, 3) := by decide +kernel
theorem d_M_init_130 : decode b_M_init 130 = .ok (.aload_n 0, 1) := by decide +kernel
theorem d_M_init_131 : decode b_M_init 131 = .ok (.bipush 25, 2) := by decide +kernel
theorem d_M_init_133 : decode b_M_init 133 = .ok (.newarray .int, 2) := by decide +kernel
theorem d_M_init_135 : decode b_M_init 135 = .ok (.putfield 54, 3) := by decide +kernel
theorem d_M_init_138 : decode b_M_init 138 = .ok (.aload_n 0, 1) := by decide +kernel
theorem d_M_init_139 : decode b_M_init 139 = .ok (.bipush 25, 2) := by decide +kernel
theorem d_M_init_141 : decode b_M_init 141 = .ok (.newarray .int, 2) := by decide +kernel
theorem d_M_init_143 : decode b_M_init 143 = .ok (.putfield 57, 3) := by decide +kernel
theorem d_M_init_146 : decode b_M_init 146 = .ok (.aload_n 0, 1) := by decide +kernel
theorem d_M_init_147 : decode b_M_init 147 = .ok (.bipush 25, 2) := by decide +kernel
theorem d_M_init_149 : decode b_M_init 149 = .ok (.newarray .long, 2) := by decide +kernel
theorem d_M_init_151 : decode b_M_init 151 = .ok (.putfield 60, 3) := by decide +kernel
theorem d_M_init_154 : decode b_M_init 154 = .ok (.aload_n 0, 1) := by decide +kernel
theorem d_M_init_155 : decode b_M_init 155 = .ok (.sipush 200, 3) := by decide +kernel
theorem d_M_init_158 : decode b_M_init 158 = .ok (.newarray .int, 2) := by decide +kernel
theorem d_M_init_160 : decode b_M_init 160 = .ok (.putfield 63, 3) := by decide +kernel
theorem d_M_init_163 : decode b_M_init 163 = .ok (.aload_n 0, 1) := by decide +kernel
theorem d_M_init_164 : decode b_M_init 164 = .ok (.iconst 1, 1) := by decide +kernel
theorem d_M_init_165 : decode b_M_init 165 = .ok (.putfield 66, 3) := by decide +kernel
theorem d_M_init_168 : decode b_M_init 168 = .ok (.aload_n 0, 1) := by decide +kernel
theorem d_M_init_169 : decode b_M_init 169 = .ok (.bipush 48, 2) := by decide +kernel
theorem d_M_init_171 : decode b_M_init 171 = .ok (.newarray .boolean, 2) := by decide +kernel
theorem d_M_init_173 : decode b_M_init 173 = .ok (.putfield 70, 3) := by decide +kernel
theorem d_M_init_176 : decode b_M_init 176 = .ok (.aload_n 0, 1) := by decide +kernel
theorem d_M_init_177 : decode b_M_init 177 = .ok (.iconst 3, 1) := by decide +kernel
theorem d_M_init_178 : decode b_M_init 178 = .ok (.newarray .int, 2) := by decide +kernel
theorem d_M_init_180 : decode b_M_init 180 = .ok (.putfield 73, 3) := by decide +kernel
theorem d_M_init_183 : decode b_M_init 183 = .ok (.return_, 1) := by decide +kernel
