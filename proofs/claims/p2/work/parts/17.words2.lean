/-! words that rows use -/
theorem wt_22 : (.methodLink "WidthCampaigns" 1 ⟨"java/lang/Object", "<init>", "()V"⟩ : Cond) ∈ wx_all := wx_mem 66 (by decide +kernel) (by decide +kernel)
theorem wt_23 : (.instanceMethod ⟨"java/lang/Object", "<init>", "()V"⟩ : Cond) ∈ wx_all := wx_mem 67 (by decide +kernel) (by decide +kernel)
theorem wt_24 : (.code ⟨"java/lang/Object", "<init>", "()V"⟩ object_method_1_code 1 (Option.none : Option Jvm.ClassFile.FieldType) : Cond) ∈ wx_all := wx_mem 68 (by decide +kernel) (by decide +kernel)
theorem wt_25 : (.classLink "WidthCampaigns" 7 "WidthCampaigns$Plant" : Cond) ∈ wx_all := wx_mem 69 (by decide +kernel) (by decide +kernel)
theorem wt_26 : (.instantiable "WidthCampaigns$Plant" 15 : Cond) ∈ wx_all := wx_mem 70 (by decide +kernel) (by decide +kernel)
theorem wt_28 : (.instanceMethod ⟨"WidthCampaigns$Plant", "<init>", "()V"⟩ : Cond) ∈ wx_all := wx_mem 72 (by decide +kernel) (by decide +kernel)
theorem wt_29 : (.code ⟨"WidthCampaigns$Plant", "<init>", "()V"⟩ prog_4_method_1_code 1 (Option.none : Option Jvm.ClassFile.FieldType) : Cond) ∈ wx_all := wx_mem 73 (by decide +kernel) (by decide +kernel)
theorem wt_30 : (.methodLink "WidthCampaigns$Plant" 3 ⟨"java/lang/Object", "<init>", "()V"⟩ : Cond) ∈ wx_all := wx_mem 74 (by decide +kernel) (by decide +kernel)
theorem wt_31 : (.classLink "WidthCampaigns$Plant" 30 "[[I" : Cond) ∈ wx_all := wx_mem 75 (by decide +kernel) (by decide +kernel)
theorem wt_33 : (.classLink "WidthCampaigns$Plant" 35 "WidthCampaigns$JumpTable" : Cond) ∈ wx_all := wx_mem 77 (by decide +kernel) (by decide +kernel)
theorem wt_34 : (.instantiable "WidthCampaigns$JumpTable" 4 : Cond) ∈ wx_all := wx_mem 78 (by decide +kernel) (by decide +kernel)
theorem wt_36 : (.instanceMethod ⟨"WidthCampaigns$JumpTable", "<init>", "()V"⟩ : Cond) ∈ wx_all := wx_mem 80 (by decide +kernel) (by decide +kernel)
theorem wt_37 : (.code ⟨"WidthCampaigns$JumpTable", "<init>", "()V"⟩ prog_2_method_1_code 1 (Option.none : Option Jvm.ClassFile.FieldType) : Cond) ∈ wx_all := wx_mem 81 (by decide +kernel) (by decide +kernel)
theorem wt_38 : (.methodLink "WidthCampaigns$JumpTable" 3 ⟨"java/lang/Object", "<init>", "()V"⟩ : Cond) ∈ wx_all := wx_mem 82 (by decide +kernel) (by decide +kernel)
theorem wt_53 : (.arrayClass Jvm.ClassFile.FieldType.int : Cond) ∈ wx_all := wx_mem 97 (by decide +kernel) (by decide +kernel)
theorem wt_54 : (.classLink "WidthCampaigns$Plant" 45 "WidthCampaigns$WidthGroups" : Cond) ∈ wx_all := wx_mem 98 (by decide +kernel) (by decide +kernel)
theorem wt_55 : (.instantiable "WidthCampaigns$WidthGroups" 4 : Cond) ∈ wx_all := wx_mem 99 (by decide +kernel) (by decide +kernel)
theorem wt_57 : (.instanceMethod ⟨"WidthCampaigns$WidthGroups", "<init>", "()V"⟩ : Cond) ∈ wx_all := wx_mem 101 (by decide +kernel) (by decide +kernel)
theorem wt_58 : (.code ⟨"WidthCampaigns$WidthGroups", "<init>", "()V"⟩ prog_6_method_1_code 1 (Option.none : Option Jvm.ClassFile.FieldType) : Cond) ∈ wx_all := wx_mem 102 (by decide +kernel) (by decide +kernel)
theorem wt_59 : (.methodLink "WidthCampaigns$WidthGroups" 3 ⟨"java/lang/Object", "<init>", "()V"⟩ : Cond) ∈ wx_all := wx_mem 103 (by decide +kernel) (by decide +kernel)
theorem wt_104 : (.fieldLink "WidthCampaigns$Plant" 52 "WidthCampaigns$Plant" "rise" "I" : Cond) ∈ wx_all := wx_mem 148 (by decide +kernel) (by decide +kernel)
theorem wt_107 : (.fieldLink "WidthCampaigns$Plant" 56 "WidthCampaigns$Plant" "wear" "I" : Cond) ∈ wx_all := wx_mem 151 (by decide +kernel) (by decide +kernel)
theorem wt_110 : (.fieldLink "WidthCampaigns$Plant" 59 "WidthCampaigns$Plant" "changeCents" "I" : Cond) ∈ wx_all := wx_mem 154 (by decide +kernel) (by decide +kernel)
theorem wt_146 : (.classLink "WidthCampaigns" 16 "WidthCampaigns$Line" : Cond) ∈ wx_all := wx_mem 190 (by decide +kernel) (by decide +kernel)
theorem wt_147 : (.instantiable "WidthCampaigns$Line" 10 : Cond) ∈ wx_all := wx_mem 191 (by decide +kernel) (by decide +kernel)
theorem wt_149 : (.instanceMethod ⟨"WidthCampaigns$Line", "<init>", "(LWidthCampaigns$Plant;)V"⟩ : Cond) ∈ wx_all := wx_mem 193 (by decide +kernel) (by decide +kernel)
theorem wt_150 : (.code ⟨"WidthCampaigns$Line", "<init>", "(LWidthCampaigns$Plant;)V"⟩ prog_3_method_1_code 2 (Option.none : Option Jvm.ClassFile.FieldType) : Cond) ∈ wx_all := wx_mem 194 (by decide +kernel) (by decide +kernel)
theorem wt_151 : (.methodLink "WidthCampaigns$Line" 3 ⟨"java/lang/Object", "<init>", "()V"⟩ : Cond) ∈ wx_all := wx_mem 195 (by decide +kernel) (by decide +kernel)
theorem wt_152 : (.classLink "WidthCampaigns$Line" 34 "[[I" : Cond) ∈ wx_all := wx_mem 196 (by decide +kernel) (by decide +kernel)
theorem wt_187 : (.arrayClass Jvm.ClassFile.FieldType.boolean : Cond) ∈ wx_all := wx_mem 231 (by decide +kernel) (by decide +kernel)
theorem wt_188 : (.classLink "WidthCampaigns" 28 "WidthCampaigns$Search" : Cond) ∈ wx_all := wx_mem 232 (by decide +kernel) (by decide +kernel)
theorem wt_189 : (.instantiable "WidthCampaigns$Search" 7 : Cond) ∈ wx_all := wx_mem 233 (by decide +kernel) (by decide +kernel)
theorem wt_191 : (.instanceMethod ⟨"WidthCampaigns$Search", "<init>", "(LWidthCampaigns$Plant;LWidthCampaigns$Line;)V"⟩ : Cond) ∈ wx_all := wx_mem 235 (by decide +kernel) (by decide +kernel)
theorem wt_192 : (.code ⟨"WidthCampaigns$Search", "<init>", "(LWidthCampaigns$Plant;LWidthCampaigns$Line;)V"⟩ prog_5_method_1_code 3 (Option.none : Option Jvm.ClassFile.FieldType) : Cond) ∈ wx_all := wx_mem 236 (by decide +kernel) (by decide +kernel)
theorem wt_193 : (.methodLink "WidthCampaigns$Search" 3 ⟨"java/lang/Object", "<init>", "()V"⟩ : Cond) ∈ wx_all := wx_mem 237 (by decide +kernel) (by decide +kernel)
theorem wt_629 : (.methodLink "WidthCampaignsModel" 1 ⟨"java/lang/Object", "<init>", "()V"⟩ : Cond) ∈ wx_all := wx_mem 673 (by decide +kernel) (by decide +kernel)
abbrev wy_G_init : MethodName := ⟨"WidthCampaigns$WidthGroups", "<init>", "()V"⟩
abbrev wx_ws_G_init : List Cond := (.code ⟨"WidthCampaigns$WidthGroups", "<init>", "()V"⟩ prog_6_method_1_code 1 (Option.none : Option Jvm.ClassFile.FieldType) : Cond) :: wx_all
theorem wh_G_init : (wy_G_init).cls ≠ "java/lang/invoke/MethodHandle" ∧ (wy_G_init).cls ≠ "java/lang/invoke/VarHandle" ∧ (parseMethodDescriptor (wy_G_init).desc).map (fun d => d.parameters.length) = some 0 := by decide +kernel
abbrev wy_J_init : MethodName := ⟨"WidthCampaigns$JumpTable", "<init>", "()V"⟩
abbrev wx_ws_J_init : List Cond := (.code ⟨"WidthCampaigns$JumpTable", "<init>", "()V"⟩ prog_2_method_1_code 1 (Option.none : Option Jvm.ClassFile.FieldType) : Cond) :: wx_all
theorem wh_J_init : (wy_J_init).cls ≠ "java/lang/invoke/MethodHandle" ∧ (wy_J_init).cls ≠ "java/lang/invoke/VarHandle" ∧ (parseMethodDescriptor (wy_J_init).desc).map (fun d => d.parameters.length) = some 0 := by decide +kernel
abbrev wy_L_init : MethodName := ⟨"WidthCampaigns$Line", "<init>", "(LWidthCampaigns$Plant;)V"⟩
abbrev wx_ws_L_init : List Cond := (.code ⟨"WidthCampaigns$Line", "<init>", "(LWidthCampaigns$Plant;)V"⟩ prog_3_method_1_code 2 (Option.none : Option Jvm.ClassFile.FieldType) : Cond) :: wx_all
theorem wh_L_init : (wy_L_init).cls ≠ "java/lang/invoke/MethodHandle" ∧ (wy_L_init).cls ≠ "java/lang/invoke/VarHandle" ∧ (parseMethodDescriptor (wy_L_init).desc).map (fun d => d.parameters.length) = some 1 := by decide +kernel
abbrev wy_M_init : MethodName := ⟨"WidthCampaignsModel", "<init>", "()V"⟩
abbrev wx_ws_M_init : List Cond := (.code ⟨"WidthCampaignsModel", "<init>", "()V"⟩ prog_8_method_1_code 1 (Option.none : Option Jvm.ClassFile.FieldType) : Cond) :: wx_all
theorem wh_M_init : (wy_M_init).cls ≠ "java/lang/invoke/MethodHandle" ∧ (wy_M_init).cls ≠ "java/lang/invoke/VarHandle" ∧ (parseMethodDescriptor (wy_M_init).desc).map (fun d => d.parameters.length) = some 0 := by decide +kernel
abbrev wy_P_init : MethodName := ⟨"WidthCampaigns$Plant", "<init>", "()V"⟩
abbrev wx_ws_P_init : List Cond := (.code ⟨"WidthCampaigns$Plant", "<init>", "()V"⟩ prog_4_method_1_code 1 (Option.none : Option Jvm.ClassFile.FieldType) : Cond) :: wx_all
theorem wh_P_init : (wy_P_init).cls ≠ "java/lang/invoke/MethodHandle" ∧ (wy_P_init).cls ≠ "java/lang/invoke/VarHandle" ∧ (parseMethodDescriptor (wy_P_init).desc).map (fun d => d.parameters.length) = some 0 := by decide +kernel
abbrev wy_S_init : MethodName := ⟨"WidthCampaigns$Search", "<init>", "(LWidthCampaigns$Plant;LWidthCampaigns$Line;)V"⟩
abbrev wx_ws_S_init : List Cond := (.code ⟨"WidthCampaigns$Search", "<init>", "(LWidthCampaigns$Plant;LWidthCampaigns$Line;)V"⟩ prog_5_method_1_code 3 (Option.none : Option Jvm.ClassFile.FieldType) : Cond) :: wx_all
theorem wh_S_init : (wy_S_init).cls ≠ "java/lang/invoke/MethodHandle" ∧ (wy_S_init).cls ≠ "java/lang/invoke/VarHandle" ∧ (parseMethodDescriptor (wy_S_init).desc).map (fun d => d.parameters.length) = some 2 := by decide +kernel
abbrev wy_W_init : MethodName := ⟨"WidthCampaigns", "<init>", "()V"⟩
abbrev wx_ws_W_init : List Cond := (.code ⟨"WidthCampaigns", "<init>", "()V"⟩ prog_1_method_1_code 1 (Option.none : Option Jvm.ClassFile.FieldType) : Cond) :: wx_all
theorem wh_W_init : (wy_W_init).cls ≠ "java/lang/invoke/MethodHandle" ∧ (wy_W_init).cls ≠ "java/lang/invoke/VarHandle" ∧ (parseMethodDescriptor (wy_W_init).desc).map (fun d => d.parameters.length) = some 0 := by decide +kernel
