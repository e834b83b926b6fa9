theorem pm_own_eq (mi : Nat) : pm_own mi = (pm_name mi).cls := rfl
theorem pm_ctor_ok {mi : Nat} (h : pm_ctor mi = true) : (pm_name mi).name = "<init>" := of_decide_eq_true h
def pm_ck (q : pm_M) : Bool := plainName q.1.cls && (q.1.cls == pm_on q.2.2.2.2.1) && q.2.2.2.2.2.2.all (fun z => decide (decode q.2.1 z.1 = .ok (z.2, am_len z.1 z.2)))
set_option maxRecDepth 100000 in
theorem pm_k0 : pm_ck pm_0 = true := by decide +kernel
set_option maxRecDepth 100000 in
theorem pm_k1 : pm_ck pm_1 = true := by decide +kernel
set_option maxRecDepth 100000 in
theorem pm_k2 : pm_ck pm_2 = true := by decide +kernel
set_option maxRecDepth 100000 in
theorem pm_k3 : pm_ck pm_3 = true := by decide +kernel
set_option maxRecDepth 100000 in
theorem pm_k4 : pm_ck pm_4 = true := by decide +kernel
set_option maxRecDepth 100000 in
theorem pm_k5 : pm_ck pm_5 = true := by decide +kernel
set_option maxRecDepth 100000 in
theorem pm_k6 : pm_ck pm_6 = true := by decide +kernel
set_option maxRecDepth 100000 in
theorem pm_k7 : pm_ck pm_7 = true := by decide +kernel
set_option maxRecDepth 100000 in
theorem pm_k8 : pm_ck pm_8 = true := by decide +kernel
set_option maxRecDepth 100000 in
theorem pm_k9 : pm_ck pm_9 = true := by decide +kernel
set_option maxRecDepth 100000 in
theorem pm_k10 : pm_ck pm_10 = true := by decide +kernel
set_option maxRecDepth 100000 in
theorem pm_k11 : pm_ck pm_11 = true := by decide +kernel
set_option maxRecDepth 100000 in
theorem pm_k12 : pm_ck pm_12 = true := by decide +kernel
set_option maxRecDepth 100000 in
theorem pm_k13 : pm_ck pm_13 = true := by decide +kernel
set_option maxRecDepth 100000 in
theorem pm_k14 : pm_ck pm_14 = true := by decide +kernel
set_option maxRecDepth 100000 in
theorem pm_k15 : pm_ck pm_15 = true := by decide +kernel
set_option maxRecDepth 100000 in
theorem pm_k16 : pm_ck pm_16 = true := by decide +kernel
set_option maxRecDepth 100000 in
theorem pm_k17 : pm_ck pm_17 = true := by decide +kernel
set_option maxRecDepth 100000 in
theorem pm_k18 : pm_ck pm_18 = true := by decide +kernel
set_option maxRecDepth 100000 in
theorem pm_k19 : pm_ck pm_19 = true := by decide +kernel
set_option maxRecDepth 100000 in
theorem pm_k20 : pm_ck pm_20 = true := by decide +kernel
set_option maxRecDepth 100000 in
theorem pm_k21 : pm_ck pm_21 = true := by decide +kernel
set_option maxRecDepth 100000 in
theorem pm_k22 : pm_ck pm_22 = true := by decide +kernel
set_option maxRecDepth 100000 in
theorem pm_k23 : pm_ck pm_23 = true := by decide +kernel
set_option maxRecDepth 100000 in
theorem pm_k24 : pm_ck pm_24 = true := by decide +kernel
set_option maxRecDepth 100000 in
theorem pm_k25 : pm_ck pm_25 = true := by decide +kernel
set_option maxRecDepth 100000 in
theorem pm_k26 : pm_ck pm_26 = true := by decide +kernel
set_option maxRecDepth 100000 in
theorem pm_k27 : pm_ck pm_27 = true := by decide +kernel
set_option maxRecDepth 100000 in
theorem pm_k28 : pm_ck pm_28 = true := by decide +kernel
set_option maxRecDepth 100000 in
theorem pm_k29 : pm_ck pm_29 = true := by decide +kernel
set_option maxRecDepth 100000 in
theorem pm_k30 : pm_ck pm_30 = true := by decide +kernel
set_option maxRecDepth 100000 in
theorem pm_k31 : pm_ck pm_31 = true := by decide +kernel
set_option maxRecDepth 100000 in
theorem pm_k32 : pm_ck pm_32 = true := by decide +kernel
set_option maxRecDepth 100000 in
theorem pm_k33 : pm_ck pm_33 = true := by decide +kernel
set_option maxRecDepth 100000 in
theorem pm_k34 : pm_ck pm_34 = true := by decide +kernel
set_option maxRecDepth 100000 in
theorem pm_k35 : pm_ck pm_35 = true := by decide +kernel
set_option maxRecDepth 100000 in
theorem pm_k36 : pm_ck pm_36 = true := by decide +kernel
set_option maxRecDepth 100000 in
theorem pm_k37 : pm_ck pm_37 = true := by decide +kernel
set_option maxRecDepth 100000 in
theorem pm_k38 : pm_ck pm_38 = true := by decide +kernel
set_option maxRecDepth 100000 in
theorem pm_k39 : pm_ck pm_39 = true := by decide +kernel
set_option maxRecDepth 100000 in
theorem pm_k40 : pm_ck pm_40 = true := by decide +kernel
set_option maxRecDepth 100000 in
theorem pm_k41 : pm_ck pm_41 = true := by decide +kernel
set_option maxRecDepth 100000 in
theorem pm_k42 : pm_ck pm_42 = true := by decide +kernel
set_option maxRecDepth 100000 in
theorem pm_k43 : pm_ck pm_43 = true := by decide +kernel
set_option maxRecDepth 100000 in
theorem pm_k44 : pm_ck pm_44 = true := by decide +kernel
set_option maxRecDepth 100000 in
theorem pm_k45 : pm_ck pm_45 = true := by decide +kernel
set_option maxRecDepth 100000 in
theorem pm_k46 : pm_ck pm_46 = true := by decide +kernel
set_option maxRecDepth 100000 in
theorem pm_k47 : pm_ck pm_47 = true := by decide +kernel
set_option maxRecDepth 100000 in
theorem pm_k48 : pm_ck pm_48 = true := by decide +kernel
set_option maxRecDepth 100000 in
theorem pm_k49 : pm_ck pm_49 = true := by decide +kernel
set_option maxRecDepth 100000 in
theorem pm_k50 : pm_ck pm_50 = true := by decide +kernel
set_option maxRecDepth 100000 in
theorem pm_k51 : pm_ck pm_51 = true := by decide +kernel
set_option maxRecDepth 100000 in
theorem pm_k52 : pm_ck pm_52 = true := by decide +kernel
set_option maxRecDepth 100000 in
theorem pm_k53 : pm_ck pm_53 = true := by decide +kernel
set_option maxRecDepth 100000 in
theorem pm_k54 : pm_ck pm_54 = true := by decide +kernel
set_option maxRecDepth 100000 in
theorem pm_k55 : pm_ck pm_55 = true := by decide +kernel
set_option maxRecDepth 100000 in
theorem pm_k56 : pm_ck pm_56 = true := by decide +kernel
set_option maxRecDepth 100000 in
theorem pm_k57 : pm_ck pm_57 = true := by decide +kernel
set_option maxRecDepth 100000 in
theorem pm_k58 : pm_ck pm_58 = true := by decide +kernel
set_option maxRecDepth 100000 in
theorem pm_k59 : pm_ck pm_59 = true := by decide +kernel
set_option maxRecDepth 100000 in
theorem pm_k60 : pm_ck pm_60 = true := by decide +kernel
set_option maxRecDepth 100000 in
theorem pm_k61 : pm_ck pm_61 = true := by decide +kernel
set_option maxRecDepth 100000 in
theorem pm_k62 : pm_ck pm_62 = true := by decide +kernel
set_option maxRecDepth 100000 in
theorem pm_k63 : pm_ck pm_63 = true := by decide +kernel
set_option maxRecDepth 100000 in
theorem pm_k64 : pm_ck pm_64 = true := by decide +kernel
set_option maxRecDepth 100000 in
theorem pm_k65 : pm_ck pm_65 = true := by decide +kernel
set_option maxRecDepth 100000 in
theorem pm_k66 : pm_ck pm_66 = true := by decide +kernel
set_option maxRecDepth 100000 in
theorem pm_k67 : pm_ck pm_67 = true := by decide +kernel
set_option maxRecDepth 100000 in
theorem pm_k68 : pm_ck pm_68 = true := by decide +kernel
set_option maxRecDepth 100000 in
theorem pm_k69 : pm_ck pm_69 = true := by decide +kernel
set_option maxRecDepth 100000 in
theorem pm_k70 : pm_ck pm_70 = true := by decide +kernel
set_option maxRecDepth 100000 in
theorem pm_k71 : pm_ck pm_71 = true := by decide +kernel
set_option maxRecDepth 100000 in
theorem pm_k72 : pm_ck pm_72 = true := by decide +kernel
set_option maxRecDepth 100000 in
theorem pm_k73 : pm_ck pm_73 = true := by decide +kernel
set_option maxRecDepth 100000 in
theorem pm_k74 : pm_ck pm_74 = true := by decide +kernel
set_option maxRecDepth 100000 in
theorem pm_k75 : pm_ck pm_75 = true := by decide +kernel
set_option maxRecDepth 100000 in
theorem pm_k76 : pm_ck pm_76 = true := by decide +kernel
set_option maxRecDepth 100000 in
theorem pm_k77 : pm_ck pm_77 = true := by decide +kernel
set_option maxRecDepth 100000 in
theorem pm_k78 : pm_ck pm_78 = true := by decide +kernel
set_option maxRecDepth 100000 in
theorem pm_k79 : pm_ck pm_79 = true := by decide +kernel
set_option maxRecDepth 100000 in
theorem pm_k80 : pm_ck pm_80 = true := by decide +kernel
set_option maxRecDepth 100000 in
theorem pm_k81 : pm_ck pm_81 = true := by decide +kernel
set_option maxRecDepth 100000 in
theorem pm_k82 : pm_ck pm_82 = true := by decide +kernel
set_option maxRecDepth 100000 in
theorem pm_k83 : pm_ck pm_83 = true := by decide +kernel
set_option maxRecDepth 100000 in
theorem pm_k84 : pm_ck pm_84 = true := by decide +kernel
set_option maxRecDepth 100000 in
theorem pm_k85 : pm_ck pm_85 = true := by decide +kernel
set_option maxRecDepth 100000 in
theorem pm_k86 : pm_ck pm_86 = true := by decide +kernel
set_option maxRecDepth 100000 in
theorem pm_k87 : pm_ck pm_87 = true := by decide +kernel
set_option maxRecDepth 100000 in
theorem pm_k88 : pm_ck pm_88 = true := by decide +kernel
set_option maxRecDepth 100000 in
theorem pm_k89 : pm_ck pm_89 = true := by decide +kernel
set_option maxRecDepth 100000 in
theorem pm_k90 : pm_ck pm_90 = true := by decide +kernel
set_option maxRecDepth 100000 in
theorem pm_k91 : pm_ck pm_91 = true := by decide +kernel
set_option maxRecDepth 100000 in
theorem pm_k92 : pm_ck pm_92 = true := by decide +kernel
set_option maxRecDepth 100000 in
theorem pm_k93 : pm_ck pm_93 = true := by decide +kernel
set_option maxRecDepth 100000 in
theorem pm_k94 : pm_ck pm_94 = true := by decide +kernel
set_option maxRecDepth 100000 in
theorem pm_k95 : pm_ck pm_95 = true := by decide +kernel
set_option maxRecDepth 100000 in
theorem pm_k96 : pm_ck pm_96 = true := by decide +kernel
set_option maxRecDepth 100000 in
theorem pm_k97 : pm_ck pm_97 = true := by decide +kernel
set_option maxRecDepth 100000 in
theorem pm_k98 : pm_ck pm_98 = true := by decide +kernel
set_option maxRecDepth 100000 in
theorem pm_k99 : pm_ck pm_99 = true := by decide +kernel
set_option maxRecDepth 100000 in
theorem pm_k100 : pm_ck pm_100 = true := by decide +kernel
set_option maxRecDepth 100000 in
theorem pm_k101 : pm_ck pm_101 = true := by decide +kernel
set_option maxRecDepth 100000 in
theorem pm_k102 : pm_ck pm_102 = true := by decide +kernel
set_option maxRecDepth 100000 in
theorem pm_k103 : pm_ck pm_103 = true := by decide +kernel
set_option maxRecDepth 100000 in
theorem pm_k104 : pm_ck pm_104 = true := by decide +kernel
set_option maxRecDepth 100000 in
theorem pm_k105 : pm_ck pm_105 = true := by decide +kernel
set_option maxRecDepth 100000 in
theorem pm_k106 : pm_ck pm_106 = true := by decide +kernel
set_option maxRecDepth 100000 in
theorem pm_k107 : pm_ck pm_107 = true := by decide +kernel
set_option maxRecDepth 100000 in
theorem pm_k108 : pm_ck pm_108 = true := by decide +kernel
set_option maxRecDepth 100000 in
theorem pm_k109 : pm_ck pm_109 = true := by decide +kernel
set_option maxRecDepth 100000 in
theorem pm_k110 : pm_ck pm_110 = true := by decide +kernel
set_option maxRecDepth 100000 in
theorem pm_k111 : pm_ck pm_111 = true := by decide +kernel
set_option maxRecDepth 100000 in
theorem pm_k112 : pm_ck pm_112 = true := by decide +kernel
set_option maxRecDepth 100000 in
theorem pm_k113 : pm_ck pm_113 = true := by decide +kernel
set_option maxRecDepth 100000 in
theorem pm_k114 : pm_ck pm_114 = true := by decide +kernel
set_option maxRecDepth 100000 in
theorem pm_k115 : pm_ck pm_115 = true := by decide +kernel
set_option maxRecDepth 100000 in
theorem pm_k116 : pm_ck pm_116 = true := by decide +kernel
set_option maxRecDepth 100000 in
theorem pm_k117 : pm_ck pm_117 = true := by decide +kernel
set_option maxRecDepth 100000 in
theorem pm_k118 : pm_ck pm_118 = true := by decide +kernel
set_option maxRecDepth 100000 in
theorem pm_k119 : pm_ck pm_119 = true := by decide +kernel
set_option maxRecDepth 100000 in
theorem pm_k120 : pm_ck pm_120 = true := by decide +kernel
set_option maxRecDepth 100000 in
theorem pm_k121 : pm_ck pm_121 = true := by decide +kernel
set_option maxRecDepth 100000 in
theorem pm_k122 : pm_ck pm_122 = true := by decide +kernel
set_option maxRecDepth 100000 in
theorem pm_k123 : pm_ck pm_123 = true := by decide +kernel
set_option maxRecDepth 100000 in
theorem pm_k124 : pm_ck pm_124 = true := by decide +kernel
set_option maxRecDepth 100000 in
theorem pm_k125 : pm_ck pm_125 = true := by decide +kernel
set_option maxRecDepth 100000 in
theorem pm_k126 : pm_ck pm_126 = true := by decide +kernel
set_option maxRecDepth 100000 in
theorem pm_k127 : pm_ck pm_127 = true := by decide +kernel
set_option maxRecDepth 100000 in
theorem pm_k128 : pm_ck pm_128 = true := by decide +kernel
set_option maxRecDepth 100000 in
theorem pm_k129 : pm_ck pm_129 = true := by decide +kernel
set_option maxRecDepth 100000 in
theorem pm_k130 : pm_ck pm_130 = true := by decide +kernel
set_option maxRecDepth 100000 in
theorem pm_k131 : pm_ck pm_131 = true := by decide +kernel
set_option maxRecDepth 100000 in
theorem pm_k132 : pm_ck pm_132 = true := by decide +kernel
set_option maxRecDepth 100000 in
theorem pm_k133 : pm_ck pm_133 = true := by decide +kernel
set_option maxRecDepth 100000 in
theorem pm_k134 : pm_ck pm_134 = true := by decide +kernel
set_option maxRecDepth 100000 in
theorem pm_k135 : pm_ck pm_135 = true := by decide +kernel
set_option maxRecDepth 100000 in
theorem pm_k136 : pm_ck pm_136 = true := by decide +kernel
set_option maxRecDepth 100000 in
theorem pm_k137 : pm_ck pm_137 = true := by decide +kernel
set_option maxRecDepth 100000 in
theorem pm_k138 : pm_ck pm_138 = true := by decide +kernel
set_option maxRecDepth 100000 in
theorem pm_ks : ∀ q ∈ pm_ms, pm_ck q = true := List.forall_mem_cons.mpr ⟨pm_k0, List.forall_mem_cons.mpr ⟨pm_k1, List.forall_mem_cons.mpr ⟨pm_k2, List.forall_mem_cons.mpr ⟨pm_k3, List.forall_mem_cons.mpr ⟨pm_k4, List.forall_mem_cons.mpr ⟨pm_k5, List.forall_mem_cons.mpr ⟨pm_k6, List.forall_mem_cons.mpr ⟨pm_k7, List.forall_mem_cons.mpr ⟨pm_k8, List.forall_mem_cons.mpr ⟨pm_k9, List.forall_mem_cons.mpr ⟨pm_k10, List.forall_mem_cons.mpr ⟨pm_k11, List.forall_mem_cons.mpr ⟨pm_k12, List.forall_mem_cons.mpr ⟨pm_k13, List.forall_mem_cons.mpr ⟨pm_k14, List.forall_mem_cons.mpr ⟨pm_k15, List.forall_mem_cons.mpr ⟨pm_k16, List.forall_mem_cons.mpr ⟨pm_k17, List.forall_mem_cons.mpr ⟨pm_k18, List.forall_mem_cons.mpr ⟨pm_k19, List.forall_mem_cons.mpr ⟨pm_k20, List.forall_mem_cons.mpr ⟨pm_k21, List.forall_mem_cons.mpr ⟨pm_k22, List.forall_mem_cons.mpr ⟨pm_k23, List.forall_mem_cons.mpr ⟨pm_k24, List.forall_mem_cons.mpr ⟨pm_k25, List.forall_mem_cons.mpr ⟨pm_k26, List.forall_mem_cons.mpr ⟨pm_k27, List.forall_mem_cons.mpr ⟨pm_k28, List.forall_mem_cons.mpr ⟨pm_k29, List.forall_mem_cons.mpr ⟨pm_k30, List.forall_mem_cons.mpr ⟨pm_k31, List.forall_mem_cons.mpr ⟨pm_k32, List.forall_mem_cons.mpr ⟨pm_k33, List.forall_mem_cons.mpr ⟨pm_k34, List.forall_mem_cons.mpr ⟨pm_k35, List.forall_mem_cons.mpr ⟨pm_k36, List.forall_mem_cons.mpr ⟨pm_k37, List.forall_mem_cons.mpr ⟨pm_k38, List.forall_mem_cons.mpr ⟨pm_k39, List.forall_mem_cons.mpr ⟨pm_k40, List.forall_mem_cons.mpr ⟨pm_k41, List.forall_mem_cons.mpr ⟨pm_k42, List.forall_mem_cons.mpr ⟨pm_k43, List.forall_mem_cons.mpr ⟨pm_k44, List.forall_mem_cons.mpr ⟨pm_k45, List.forall_mem_cons.mpr ⟨pm_k46, List.forall_mem_cons.mpr ⟨pm_k47, List.forall_mem_cons.mpr ⟨pm_k48, List.forall_mem_cons.mpr ⟨pm_k49, List.forall_mem_cons.mpr ⟨pm_k50, List.forall_mem_cons.mpr ⟨pm_k51, List.forall_mem_cons.mpr ⟨pm_k52, List.forall_mem_cons.mpr ⟨pm_k53, List.forall_mem_cons.mpr ⟨pm_k54, List.forall_mem_cons.mpr ⟨pm_k55, List.forall_mem_cons.mpr ⟨pm_k56, List.forall_mem_cons.mpr ⟨pm_k57, List.forall_mem_cons.mpr ⟨pm_k58, List.forall_mem_cons.mpr ⟨pm_k59, List.forall_mem_cons.mpr ⟨pm_k60, List.forall_mem_cons.mpr ⟨pm_k61, List.forall_mem_cons.mpr ⟨pm_k62, List.forall_mem_cons.mpr ⟨pm_k63, List.forall_mem_cons.mpr ⟨pm_k64, List.forall_mem_cons.mpr ⟨pm_k65, List.forall_mem_cons.mpr ⟨pm_k66, List.forall_mem_cons.mpr ⟨pm_k67, List.forall_mem_cons.mpr ⟨pm_k68, List.forall_mem_cons.mpr ⟨pm_k69, List.forall_mem_cons.mpr ⟨pm_k70, List.forall_mem_cons.mpr ⟨pm_k71, List.forall_mem_cons.mpr ⟨pm_k72, List.forall_mem_cons.mpr ⟨pm_k73, List.forall_mem_cons.mpr ⟨pm_k74, List.forall_mem_cons.mpr ⟨pm_k75, List.forall_mem_cons.mpr ⟨pm_k76, List.forall_mem_cons.mpr ⟨pm_k77, List.forall_mem_cons.mpr ⟨pm_k78, List.forall_mem_cons.mpr ⟨pm_k79, List.forall_mem_cons.mpr ⟨pm_k80, List.forall_mem_cons.mpr ⟨pm_k81, List.forall_mem_cons.mpr ⟨pm_k82, List.forall_mem_cons.mpr ⟨pm_k83, List.forall_mem_cons.mpr ⟨pm_k84, List.forall_mem_cons.mpr ⟨pm_k85, List.forall_mem_cons.mpr ⟨pm_k86, List.forall_mem_cons.mpr ⟨pm_k87, List.forall_mem_cons.mpr ⟨pm_k88, List.forall_mem_cons.mpr ⟨pm_k89, List.forall_mem_cons.mpr ⟨pm_k90, List.forall_mem_cons.mpr ⟨pm_k91, List.forall_mem_cons.mpr ⟨pm_k92, List.forall_mem_cons.mpr ⟨pm_k93, List.forall_mem_cons.mpr ⟨pm_k94, List.forall_mem_cons.mpr ⟨pm_k95, List.forall_mem_cons.mpr ⟨pm_k96, List.forall_mem_cons.mpr ⟨pm_k97, List.forall_mem_cons.mpr ⟨pm_k98, List.forall_mem_cons.mpr ⟨pm_k99, List.forall_mem_cons.mpr ⟨pm_k100, List.forall_mem_cons.mpr ⟨pm_k101, List.forall_mem_cons.mpr ⟨pm_k102, List.forall_mem_cons.mpr ⟨pm_k103, List.forall_mem_cons.mpr ⟨pm_k104, List.forall_mem_cons.mpr ⟨pm_k105, List.forall_mem_cons.mpr ⟨pm_k106, List.forall_mem_cons.mpr ⟨pm_k107, List.forall_mem_cons.mpr ⟨pm_k108, List.forall_mem_cons.mpr ⟨pm_k109, List.forall_mem_cons.mpr ⟨pm_k110, List.forall_mem_cons.mpr ⟨pm_k111, List.forall_mem_cons.mpr ⟨pm_k112, List.forall_mem_cons.mpr ⟨pm_k113, List.forall_mem_cons.mpr ⟨pm_k114, List.forall_mem_cons.mpr ⟨pm_k115, List.forall_mem_cons.mpr ⟨pm_k116, List.forall_mem_cons.mpr ⟨pm_k117, List.forall_mem_cons.mpr ⟨pm_k118, List.forall_mem_cons.mpr ⟨pm_k119, List.forall_mem_cons.mpr ⟨pm_k120, List.forall_mem_cons.mpr ⟨pm_k121, List.forall_mem_cons.mpr ⟨pm_k122, List.forall_mem_cons.mpr ⟨pm_k123, List.forall_mem_cons.mpr ⟨pm_k124, List.forall_mem_cons.mpr ⟨pm_k125, List.forall_mem_cons.mpr ⟨pm_k126, List.forall_mem_cons.mpr ⟨pm_k127, List.forall_mem_cons.mpr ⟨pm_k128, List.forall_mem_cons.mpr ⟨pm_k129, List.forall_mem_cons.mpr ⟨pm_k130, List.forall_mem_cons.mpr ⟨pm_k131, List.forall_mem_cons.mpr ⟨pm_k132, List.forall_mem_cons.mpr ⟨pm_k133, List.forall_mem_cons.mpr ⟨pm_k134, List.forall_mem_cons.mpr ⟨pm_k135, List.forall_mem_cons.mpr ⟨pm_k136, List.forall_mem_cons.mpr ⟨pm_k137, List.forall_mem_cons.mpr ⟨pm_k138, fun _ h => absurd h List.not_mem_nil⟩⟩⟩⟩⟩⟩⟩⟩⟩⟩⟩⟩⟩⟩⟩⟩⟩⟩⟩⟩⟩⟩⟩⟩⟩⟩⟩⟩⟩⟩⟩⟩⟩⟩⟩⟩⟩⟩⟩⟩⟩⟩⟩⟩⟩⟩⟩⟩⟩⟩⟩⟩⟩⟩⟩⟩⟩⟩⟩⟩⟩⟩⟩⟩⟩⟩⟩⟩⟩⟩⟩⟩⟩⟩⟩⟩⟩⟩⟩⟩⟩⟩⟩⟩⟩⟩⟩⟩⟩⟩⟩⟩⟩⟩⟩⟩⟩⟩⟩⟩⟩⟩⟩⟩⟩⟩⟩⟩⟩⟩⟩⟩⟩⟩⟩⟩⟩⟩⟩⟩⟩⟩⟩⟩⟩⟩⟩⟩⟩⟩⟩⟩⟩⟩⟩⟩⟩⟩⟩
theorem pm_m_ck (mi : Nat) : pm_ck (pm_m mi) = true := by
  unfold pm_m
  rw [List.getD_eq_getElem?_getD]
  cases h : pm_ms[mi]? with
  | none => exact pm_k0
  | some q => exact pm_ks q (List.mem_of_getElem? h)
theorem pm_plain (mi : Nat) : plainName (pm_name mi).cls = true := by
  have h := pm_m_ck mi
  unfold pm_ck at h
  simp only [Bool.and_eq_true] at h
  exact h.1.1
theorem pm_own_on (mi : Nat) : pm_own mi = pm_on (pm_oc mi) := by
  have h := pm_m_ck mi
  unfold pm_ck at h
  simp only [Bool.and_eq_true, beq_iff_eq] at h
  exact h.1.2
theorem pm_it_ok {mi pc : Nat} {i : Jvm.ClassFile.Instr} (hi : pm_it mi pc = some i) : decode (pm_code mi) pc = .ok (i, am_len pc i) := by
  have h := pm_m_ck mi
  unfold pm_ck at h
  simp only [Bool.and_eq_true] at h
  exact of_decide_eq_true (List.all_eq_true.mp h.2 (pc, i) (am_fd_in _ _ _ hi))
def pm_fck (o : Nat) (r : Nat × Nat × Nat × Nat) : Bool := match pm_cl[r.2.1]? with
  | some (C, T, N) => decide (r.2.2.1 < N) && (T r.2.2.1).1 == C && pm_in r.2.2.2 (.fieldLink (pm_on o) r.1 C (T r.2.2.1).2.1 (T r.2.2.1).2.2.1)
  | none => false
def pm_pck (o : Nat) (r : Nat × Nat × Nat × FieldType × Bool × Nat) : Bool := match pm_cl[r.2.1]? with
  | some (C, T, N) => decide (r.2.2.1 < N) && pm_in r.2.2.2.2.2 (.fieldLink (pm_on o) r.1 (T r.2.2.1).1 (T r.2.2.1).2.1 (T r.2.2.1).2.2.1) && decide (parseFieldDescriptor (T r.2.2.1).2.2.1 = some r.2.2.2.1) && ((T r.2.2.1).2.2.2 == r.2.2.2.2.1) && (!r.2.2.2.2.1 || (T r.2.2.1).1 == pm_on o)
  | none => false
def pm_mck (o : Nat) (r : Nat × Nat × Nat × Nat × Nat × Nat × Nat × Nat × Nat) : Bool :=
  pm_in r.2.2.2.2.2.1 (.methodLink (pm_on o) r.1 (pm_name r.2.2.1)) && pm_in r.2.2.2.2.2.2.2.2 (.initialized (pm_own r.2.2.1)) && Nat.blt 0 r.2.2.1 && Nat.blt r.2.2.1 139 && decide ((parseMethodDescriptor (pm_name r.2.2.1).desc).map (fun d => d.parameters.length) = some r.2.2.2.1) &&
  (match r.2.1 with
    | 0 => pm_in r.2.2.2.2.2.2.1 (.instanceMethod (pm_name r.2.2.1)) && pm_in r.2.2.2.2.2.2.2.1 (.selects (pm_own r.2.2.1) (pm_name r.2.2.1) (pm_name r.2.2.1)) && (match pm_cl[r.2.2.2.2.1]? with
      | some (C, _, _) => C == pm_own r.2.2.1
      | none => false)
    | 1 => pm_in r.2.2.2.2.2.2.1 (.static (pm_name r.2.2.1))
    | 2 => pm_in r.2.2.2.2.2.2.1 (.instanceMethod (pm_name r.2.2.1)) && (pm_name r.2.2.1).name == "<init>" && decide (pm_ret r.2.2.1 = none)
    | _ => false)
def pm_nck (o : Nat) (r : Nat × Nat × Nat) : Bool := match pm_cl[r.2.1]? with
  | some (C, _, _) => pm_in r.2.2 (.classLink (pm_on o) r.1 C)
  | none => false
def pm_ick (o : Nat) (r : Nat × Int32 × Nat) : Bool := pm_in r.2.2 (.constant (pm_on o) r.1 r.2.1)
def pm_lck (o : Nat) (r : Nat × Int64 × Nat) : Bool := pm_in r.2.2 (.constantLong (pm_on o) r.1 r.2.1)
def pm_ock (o : Nat) (r : Nat × Nat) : Bool := pm_in r.2 (.methodLink (pm_on o) r.1 objectInit)
set_option maxRecDepth 100000 in
theorem pm_fo0 : (pm_fl 0).all (pm_fck 0) = true := by decide +kernel
set_option maxRecDepth 100000 in
theorem pm_fo1 : (pm_fl 1).all (pm_fck 1) = true := by decide +kernel
set_option maxRecDepth 100000 in
theorem pm_fo2 : (pm_fl 2).all (pm_fck 2) = true := by decide +kernel
set_option maxRecDepth 100000 in
theorem pm_fo3 : (pm_fl 3).all (pm_fck 3) = true := by decide +kernel
set_option maxRecDepth 100000 in
theorem pm_fo4 : (pm_fl 4).all (pm_fck 4) = true := by decide +kernel
set_option maxRecDepth 100000 in
theorem pm_fo5 : (pm_fl 5).all (pm_fck 5) = true := by decide +kernel
set_option maxRecDepth 100000 in
theorem pm_fo6 : (pm_fl 6).all (pm_fck 6) = true := by decide +kernel
set_option maxRecDepth 100000 in
theorem pm_fo7 : (pm_fl 7).all (pm_fck 7) = true := by decide +kernel
set_option maxRecDepth 100000 in
theorem pm_fo8 : (pm_fl 8).all (pm_fck 8) = true := by decide +kernel
set_option maxRecDepth 100000 in
theorem pm_fo9 : (pm_fl 9).all (pm_fck 9) = true := by decide +kernel
set_option maxRecDepth 100000 in
theorem pm_fo10 : (pm_fl 10).all (pm_fck 10) = true := by decide +kernel
theorem pm_fok : ∀ o : Nat, (pm_fl o).all (pm_fck o) = true
  | 0 => pm_fo0
  | 1 => pm_fo1
  | 2 => pm_fo2
  | 3 => pm_fo3
  | 4 => pm_fo4
  | 5 => pm_fo5
  | 6 => pm_fo6
  | 7 => pm_fo7
  | 8 => pm_fo8
  | 9 => pm_fo9
  | 10 => pm_fo10
  | _ + 11 => rfl
set_option maxRecDepth 100000 in
theorem pm_po0 : (pm_pl 0).all (pm_pck 0) = true := by decide +kernel
set_option maxRecDepth 100000 in
theorem pm_po1 : (pm_pl 1).all (pm_pck 1) = true := by decide +kernel
set_option maxRecDepth 100000 in
theorem pm_po2 : (pm_pl 2).all (pm_pck 2) = true := by decide +kernel
set_option maxRecDepth 100000 in
theorem pm_po3 : (pm_pl 3).all (pm_pck 3) = true := by decide +kernel
set_option maxRecDepth 100000 in
theorem pm_po4 : (pm_pl 4).all (pm_pck 4) = true := by decide +kernel
set_option maxRecDepth 100000 in
theorem pm_po5 : (pm_pl 5).all (pm_pck 5) = true := by decide +kernel
set_option maxRecDepth 100000 in
theorem pm_po6 : (pm_pl 6).all (pm_pck 6) = true := by decide +kernel
set_option maxRecDepth 100000 in
theorem pm_po7 : (pm_pl 7).all (pm_pck 7) = true := by decide +kernel
set_option maxRecDepth 100000 in
theorem pm_po8 : (pm_pl 8).all (pm_pck 8) = true := by decide +kernel
set_option maxRecDepth 100000 in
theorem pm_po9 : (pm_pl 9).all (pm_pck 9) = true := by decide +kernel
set_option maxRecDepth 100000 in
theorem pm_po10 : (pm_pl 10).all (pm_pck 10) = true := by decide +kernel
theorem pm_pok : ∀ o : Nat, (pm_pl o).all (pm_pck o) = true
  | 0 => pm_po0
  | 1 => pm_po1
  | 2 => pm_po2
  | 3 => pm_po3
  | 4 => pm_po4
  | 5 => pm_po5
  | 6 => pm_po6
  | 7 => pm_po7
  | 8 => pm_po8
  | 9 => pm_po9
  | 10 => pm_po10
  | _ + 11 => rfl
set_option maxRecDepth 100000 in
theorem pm_mo0 : (pm_ml 0).all (pm_mck 0) = true := by decide +kernel
set_option maxRecDepth 100000 in
theorem pm_mo1 : (pm_ml 1).all (pm_mck 1) = true := by decide +kernel
set_option maxRecDepth 100000 in
theorem pm_mo2 : (pm_ml 2).all (pm_mck 2) = true := by decide +kernel
set_option maxRecDepth 100000 in
theorem pm_mo3 : (pm_ml 3).all (pm_mck 3) = true := by decide +kernel
set_option maxRecDepth 100000 in
theorem pm_mo4 : (pm_ml 4).all (pm_mck 4) = true := by decide +kernel
set_option maxRecDepth 100000 in
theorem pm_mo5 : (pm_ml 5).all (pm_mck 5) = true := by decide +kernel
set_option maxRecDepth 100000 in
theorem pm_mo6 : (pm_ml 6).all (pm_mck 6) = true := by decide +kernel
set_option maxRecDepth 100000 in
theorem pm_mo7 : (pm_ml 7).all (pm_mck 7) = true := by decide +kernel
set_option maxRecDepth 100000 in
theorem pm_mo8 : (pm_ml 8).all (pm_mck 8) = true := by decide +kernel
set_option maxRecDepth 100000 in
theorem pm_mo9 : (pm_ml 9).all (pm_mck 9) = true := by decide +kernel
set_option maxRecDepth 100000 in
theorem pm_mo10 : (pm_ml 10).all (pm_mck 10) = true := by decide +kernel
theorem pm_mok : ∀ o : Nat, (pm_ml o).all (pm_mck o) = true
  | 0 => pm_mo0
  | 1 => pm_mo1
  | 2 => pm_mo2
  | 3 => pm_mo3
  | 4 => pm_mo4
  | 5 => pm_mo5
  | 6 => pm_mo6
  | 7 => pm_mo7
  | 8 => pm_mo8
  | 9 => pm_mo9
  | 10 => pm_mo10
  | _ + 11 => rfl
set_option maxRecDepth 100000 in
theorem pm_no0 : (pm_nl 0).all (pm_nck 0) = true := by decide +kernel
set_option maxRecDepth 100000 in
theorem pm_no1 : (pm_nl 1).all (pm_nck 1) = true := by decide +kernel
set_option maxRecDepth 100000 in
theorem pm_no2 : (pm_nl 2).all (pm_nck 2) = true := by decide +kernel
set_option maxRecDepth 100000 in
theorem pm_no3 : (pm_nl 3).all (pm_nck 3) = true := by decide +kernel
set_option maxRecDepth 100000 in
theorem pm_no4 : (pm_nl 4).all (pm_nck 4) = true := by decide +kernel
set_option maxRecDepth 100000 in
theorem pm_no5 : (pm_nl 5).all (pm_nck 5) = true := by decide +kernel
set_option maxRecDepth 100000 in
theorem pm_no6 : (pm_nl 6).all (pm_nck 6) = true := by decide +kernel
set_option maxRecDepth 100000 in
theorem pm_no7 : (pm_nl 7).all (pm_nck 7) = true := by decide +kernel
set_option maxRecDepth 100000 in
theorem pm_no8 : (pm_nl 8).all (pm_nck 8) = true := by decide +kernel
set_option maxRecDepth 100000 in
theorem pm_no9 : (pm_nl 9).all (pm_nck 9) = true := by decide +kernel
set_option maxRecDepth 100000 in
theorem pm_no10 : (pm_nl 10).all (pm_nck 10) = true := by decide +kernel
theorem pm_nok : ∀ o : Nat, (pm_nl o).all (pm_nck o) = true
  | 0 => pm_no0
  | 1 => pm_no1
  | 2 => pm_no2
  | 3 => pm_no3
  | 4 => pm_no4
  | 5 => pm_no5
  | 6 => pm_no6
  | 7 => pm_no7
  | 8 => pm_no8
  | 9 => pm_no9
  | 10 => pm_no10
  | _ + 11 => rfl
set_option maxRecDepth 100000 in
theorem pm_io0 : (pm_il 0).all (pm_ick 0) = true := by decide +kernel
set_option maxRecDepth 100000 in
theorem pm_io1 : (pm_il 1).all (pm_ick 1) = true := by decide +kernel
set_option maxRecDepth 100000 in
theorem pm_io2 : (pm_il 2).all (pm_ick 2) = true := by decide +kernel
set_option maxRecDepth 100000 in
theorem pm_io3 : (pm_il 3).all (pm_ick 3) = true := by decide +kernel
set_option maxRecDepth 100000 in
theorem pm_io4 : (pm_il 4).all (pm_ick 4) = true := by decide +kernel
set_option maxRecDepth 100000 in
theorem pm_io5 : (pm_il 5).all (pm_ick 5) = true := by decide +kernel
set_option maxRecDepth 100000 in
theorem pm_io6 : (pm_il 6).all (pm_ick 6) = true := by decide +kernel
set_option maxRecDepth 100000 in
theorem pm_io7 : (pm_il 7).all (pm_ick 7) = true := by decide +kernel
set_option maxRecDepth 100000 in
theorem pm_io8 : (pm_il 8).all (pm_ick 8) = true := by decide +kernel
set_option maxRecDepth 100000 in
theorem pm_io9 : (pm_il 9).all (pm_ick 9) = true := by decide +kernel
set_option maxRecDepth 100000 in
theorem pm_io10 : (pm_il 10).all (pm_ick 10) = true := by decide +kernel
theorem pm_iok : ∀ o : Nat, (pm_il o).all (pm_ick o) = true
  | 0 => pm_io0
  | 1 => pm_io1
  | 2 => pm_io2
  | 3 => pm_io3
  | 4 => pm_io4
  | 5 => pm_io5
  | 6 => pm_io6
  | 7 => pm_io7
  | 8 => pm_io8
  | 9 => pm_io9
  | 10 => pm_io10
  | _ + 11 => rfl
set_option maxRecDepth 100000 in
theorem pm_lo0 : (pm_ll 0).all (pm_lck 0) = true := by decide +kernel
set_option maxRecDepth 100000 in
theorem pm_lo1 : (pm_ll 1).all (pm_lck 1) = true := by decide +kernel
set_option maxRecDepth 100000 in
theorem pm_lo2 : (pm_ll 2).all (pm_lck 2) = true := by decide +kernel
set_option maxRecDepth 100000 in
theorem pm_lo3 : (pm_ll 3).all (pm_lck 3) = true := by decide +kernel
set_option maxRecDepth 100000 in
theorem pm_lo4 : (pm_ll 4).all (pm_lck 4) = true := by decide +kernel
set_option maxRecDepth 100000 in
theorem pm_lo5 : (pm_ll 5).all (pm_lck 5) = true := by decide +kernel
set_option maxRecDepth 100000 in
theorem pm_lo6 : (pm_ll 6).all (pm_lck 6) = true := by decide +kernel
set_option maxRecDepth 100000 in
theorem pm_lo7 : (pm_ll 7).all (pm_lck 7) = true := by decide +kernel
set_option maxRecDepth 100000 in
theorem pm_lo8 : (pm_ll 8).all (pm_lck 8) = true := by decide +kernel
set_option maxRecDepth 100000 in
theorem pm_lo9 : (pm_ll 9).all (pm_lck 9) = true := by decide +kernel
set_option maxRecDepth 100000 in
theorem pm_lo10 : (pm_ll 10).all (pm_lck 10) = true := by decide +kernel
theorem pm_lok : ∀ o : Nat, (pm_ll o).all (pm_lck o) = true
  | 0 => pm_lo0
  | 1 => pm_lo1
  | 2 => pm_lo2
  | 3 => pm_lo3
  | 4 => pm_lo4
  | 5 => pm_lo5
  | 6 => pm_lo6
  | 7 => pm_lo7
  | 8 => pm_lo8
  | 9 => pm_lo9
  | 10 => pm_lo10
  | _ + 11 => rfl
set_option maxRecDepth 100000 in
theorem pm_oo0 : (pm_ol 0).all (pm_ock 0) = true := by decide +kernel
set_option maxRecDepth 100000 in
theorem pm_oo1 : (pm_ol 1).all (pm_ock 1) = true := by decide +kernel
set_option maxRecDepth 100000 in
theorem pm_oo2 : (pm_ol 2).all (pm_ock 2) = true := by decide +kernel
set_option maxRecDepth 100000 in
theorem pm_oo3 : (pm_ol 3).all (pm_ock 3) = true := by decide +kernel
set_option maxRecDepth 100000 in
theorem pm_oo4 : (pm_ol 4).all (pm_ock 4) = true := by decide +kernel
set_option maxRecDepth 100000 in
theorem pm_oo5 : (pm_ol 5).all (pm_ock 5) = true := by decide +kernel
set_option maxRecDepth 100000 in
theorem pm_oo6 : (pm_ol 6).all (pm_ock 6) = true := by decide +kernel
set_option maxRecDepth 100000 in
theorem pm_oo7 : (pm_ol 7).all (pm_ock 7) = true := by decide +kernel
set_option maxRecDepth 100000 in
theorem pm_oo8 : (pm_ol 8).all (pm_ock 8) = true := by decide +kernel
set_option maxRecDepth 100000 in
theorem pm_oo9 : (pm_ol 9).all (pm_ock 9) = true := by decide +kernel
set_option maxRecDepth 100000 in
theorem pm_oo10 : (pm_ol 10).all (pm_ock 10) = true := by decide +kernel
theorem pm_ook : ∀ o : Nat, (pm_ol o).all (pm_ock o) = true
  | 0 => pm_oo0
  | 1 => pm_oo1
  | 2 => pm_oo2
  | 3 => pm_oo3
  | 4 => pm_oo4
  | 5 => pm_oo5
  | 6 => pm_oo6
  | 7 => pm_oo7
  | 8 => pm_oo8
  | 9 => pm_oo9
  | 10 => pm_oo10
  | _ + 11 => rfl
def pm_cck (i : Nat) : Bool := match pm_cl[i]?, pm_cp[i]? with
  | some (C, T, N), some (p0, p1 :: ps) => pm_in p0 (.instantiable C N) && pm_in p1 (.initialized C) && (List.range N).all (fun k => pm_in (ps.getD k 0) (u_lay C T k)) && (List.range N).all (fun k => decide (parseFieldDescriptor (T k).2.2.1 = some (pm_ft i k)) && decide (defaultValue (pm_ft i k) = vp_V (pm_def i) k)) && decide ((pm_def i).length = N) && (List.range N).all (fun a => (List.range N).all (fun b => decide (a = b) || !((T a).2.1 == (T b).2.1)))
  | _, _ => false
set_option maxRecDepth 100000 in
theorem pm_cc0 : pm_cck 0 = true := by decide +kernel
set_option maxRecDepth 100000 in
theorem pm_cc1 : pm_cck 1 = true := by decide +kernel
set_option maxRecDepth 100000 in
theorem pm_cc2 : pm_cck 2 = true := by decide +kernel
set_option maxRecDepth 100000 in
theorem pm_cc3 : pm_cck 3 = true := by decide +kernel
set_option maxRecDepth 100000 in
theorem pm_cc4 : pm_cck 4 = true := by decide +kernel
set_option maxRecDepth 100000 in
theorem pm_cc5 : pm_cck 5 = true := by decide +kernel
set_option maxRecDepth 100000 in
theorem pm_cc6 : pm_cck 6 = true := by decide +kernel
set_option maxRecDepth 100000 in
theorem pm_cc7 : pm_cck 7 = true := by decide +kernel
set_option maxRecDepth 100000 in
theorem pm_cc8 : pm_cck 8 = true := by decide +kernel
theorem pm_cca : ∀ i : Nat, i < 9 → pm_cck i = true
  | 0, _ => pm_cc0
  | 1, _ => pm_cc1
  | 2, _ => pm_cc2
  | 3, _ => pm_cc3
  | 4, _ => pm_cc4
  | 5, _ => pm_cc5
  | 6, _ => pm_cc6
  | 7, _ => pm_cc7
  | 8, _ => pm_cc8
  | n + 9, h => absurd h (by omega)
theorem pm_cl_ok {ci N : Nat} {C : String} {T : u_T} (hc : pm_cl[ci]? = some (C, T, N)) : (∀ w ∈ u_ws C T N, w ∈ pm_tb) ∧ ∃ ty0 : Nat → FieldType, (∀ k, k < N → parseFieldDescriptor (T k).2.2.1 = some (ty0 k)) ∧ (∀ a, a < N → ∀ b, b < N → a ≠ b → (T a).2.1 ≠ (T b).2.1) ∧ (∀ j, j < N → defaultValue (ty0 j) = vp_V (pm_def ci) j) ∧ (pm_def ci).length = N ∧ Cond.instantiable C N ∈ pm_tb ∧ Cond.initialized C ∈ pm_tb := by
  have h := pm_cca ci (List.getElem?_eq_some_iff.mp hc).1
  unfold pm_cck at h
  rw [hc] at h
  split at h
  · rename_i C' T' N' p0 p1 ps he hp
    cases he
    simp only [Bool.and_eq_true] at h
    obtain ⟨⟨⟨⟨⟨h1, h2⟩, h3⟩, h4⟩, h5⟩, h6⟩ := h
    refine ⟨fun w hw => ?_, pm_ft ci, fun k hk => ?_, fun a ha b hb hab => ?_, fun j hj => ?_, of_decide_eq_true h5, pm_in_tb h1, pm_in_tb h2⟩
    · obtain ⟨k, hk, rfl⟩ := List.mem_map.mp hw
      exact pm_in_tb (List.all_eq_true.mp h3 k hk)
    · have h7 := List.all_eq_true.mp h4 k (List.mem_range.mpr hk)
      rw [Bool.and_eq_true] at h7
      exact of_decide_eq_true h7.1
    · have h7 := List.all_eq_true.mp (List.all_eq_true.mp h6 a (List.mem_range.mpr ha)) b (List.mem_range.mpr hb)
      intro hn
      simp [hab, hn] at h7
    · have h7 := List.all_eq_true.mp h4 j (List.mem_range.mpr hj)
      rw [Bool.and_eq_true] at h7
      exact of_decide_eq_true h7.2
  · cases h
theorem pm_fld_ok {mi k ci j : Nat} (h : pm_fld mi k = some (ci, j)) : ∃ (C : String) (T : u_T) (N : Nat), pm_cl[ci]? = some (C, T, N) ∧ j < N ∧ Cond.fieldLink (pm_own mi) k C (T j).2.1 (T j).2.2.1 ∈ pm_tb ∧ (T j).1 = C := by
  unfold pm_fld at h
  split at h
  · rename_i ci' j' p hq
    cases h
    have h1 := List.all_eq_true.mp (pm_fok (pm_oc mi)) _ (am_fd_in _ _ _ hq)
    unfold pm_fck at h1
    split at h1
    · rename_i C T N hc
      simp only [Bool.and_eq_true, beq_iff_eq] at h1
      exact ⟨C, T, N, hc, of_decide_eq_true h1.1.1, by rw [pm_own_on]; exact pm_in_tb h1.2, h1.1.2⟩
    · cases h1
  · cases h
theorem pm_pfl_ok {mi k ci j : Nat} {ty : FieldType} (h : pm_pfl mi k = some (ci, j, ty)) : ∃ (C : String) (T : u_T) (N : Nat), pm_cl[ci]? = some (C, T, N) ∧ j < N ∧ Cond.fieldLink (pm_own mi) k (T j).1 (T j).2.1 (T j).2.2.1 ∈ pm_tb ∧ parseFieldDescriptor (T j).2.2.1 = some ty ∧ ((T j).2.2.2 = false ∨ ((T j).2.2.2 = true ∧ pm_ctor mi = true ∧ (T j).1 = pm_own mi)) := by
  unfold pm_pfl at h
  split at h
  · rename_i ci' j' ty' fin p hq
    have h1 := List.all_eq_true.mp (pm_pok (pm_oc mi)) _ (am_fd_in _ _ _ hq)
    unfold pm_pck at h1
    split at h1
    · rename_i C T N hc
      simp only [Bool.and_eq_true, beq_iff_eq] at h1
      obtain ⟨⟨⟨⟨h2, h3⟩, h4⟩, h5⟩, h6⟩ := h1
      cases fin with
      | false =>
        cases h
        exact ⟨C, T, N, hc, of_decide_eq_true h2, by rw [pm_own_on]; exact pm_in_tb h3, of_decide_eq_true h4, Or.inl h5⟩
      | true =>
        cases hct : pm_ctor mi with
        | false =>
          rw [hct] at h
          cases h
        | true =>
          rw [hct] at h
          cases h
          refine ⟨C, T, N, hc, of_decide_eq_true h2, by rw [pm_own_on]; exact pm_in_tb h3, of_decide_eq_true h4, Or.inr ⟨h5, rfl, ?_⟩⟩
          rw [pm_own_on]
          simpa using h6
    · cases h1
  · cases h
def pm_cw (mj n : Nat) : Prop := Cond.code (pm_name mj) (pm_code mj) (pm_maxL mj) (pm_ret mj) ∈ pm_tb ∧ (pm_name mj).cls ≠ "java/lang/invoke/MethodHandle" ∧ (pm_name mj).cls ≠ "java/lang/invoke/VarHandle" ∧ (parseMethodDescriptor (pm_name mj).desc).map (fun d => d.parameters.length) = some n ∧ pm_maxL mj ≤ 45
def pm_xck (mj : Nat) : Bool := !((pm_name mj).cls == "java/lang/invoke/MethodHandle") && !((pm_name mj).cls == "java/lang/invoke/VarHandle") && decide (pm_maxL mj ≤ 45)
set_option maxRecDepth 100000 in
theorem pm_w1 : lw_tbl[92]? = some (Cond.code pm_1.1 pm_1.2.1 pm_1.2.2.1 pm_1.2.2.2.1) := by rfl
set_option maxRecDepth 100000 in
theorem pm_w2 : lw_tbl[374]? = some (Cond.code pm_2.1 pm_2.2.1 pm_2.2.2.1 pm_2.2.2.2.1) := by rfl
set_option maxRecDepth 100000 in
theorem pm_w3 : lw_tbl[382]? = some (Cond.code pm_3.1 pm_3.2.1 pm_3.2.2.1 pm_3.2.2.2.1) := by rfl
set_option maxRecDepth 100000 in
theorem pm_w4 : lw_tbl[540]? = some (Cond.code pm_4.1 pm_4.2.1 pm_4.2.2.1 pm_4.2.2.2.1) := by rfl
set_option maxRecDepth 100000 in
theorem pm_w5 : lw_tbl[544]? = some (Cond.code pm_5.1 pm_5.2.1 pm_5.2.2.1 pm_5.2.2.2.1) := by rfl
set_option maxRecDepth 100000 in
theorem pm_w6 : lw_tbl[594]? = some (Cond.code pm_6.1 pm_6.2.1 pm_6.2.2.1 pm_6.2.2.2.1) := by rfl
set_option maxRecDepth 100000 in
theorem pm_w7 : lw_tbl[723]? = some (Cond.code pm_7.1 pm_7.2.1 pm_7.2.2.1 pm_7.2.2.2.1) := by rfl
set_option maxRecDepth 100000 in
theorem pm_w8 : lw_tbl[735]? = some (Cond.code pm_8.1 pm_8.2.1 pm_8.2.2.1 pm_8.2.2.2.1) := by rfl
set_option maxRecDepth 100000 in
theorem pm_w9 : lw_tbl[739]? = some (Cond.code pm_9.1 pm_9.2.1 pm_9.2.2.1 pm_9.2.2.2.1) := by rfl
set_option maxRecDepth 100000 in
theorem pm_w10 : lw_tbl[747]? = some (Cond.code pm_10.1 pm_10.2.1 pm_10.2.2.1 pm_10.2.2.2.1) := by rfl
set_option maxRecDepth 100000 in
theorem pm_w11 : lw_tbl[751]? = some (Cond.code pm_11.1 pm_11.2.1 pm_11.2.2.1 pm_11.2.2.2.1) := by rfl
set_option maxRecDepth 100000 in
theorem pm_w12 : lw_tbl[245]? = some (Cond.code pm_12.1 pm_12.2.1 pm_12.2.2.1 pm_12.2.2.2.1) := by rfl
set_option maxRecDepth 100000 in
theorem pm_w13 : lw_tbl[607]? = some (Cond.code pm_13.1 pm_13.2.1 pm_13.2.2.1 pm_13.2.2.2.1) := by rfl
set_option maxRecDepth 100000 in
theorem pm_w14 : lw_tbl[646]? = some (Cond.code pm_14.1 pm_14.2.1 pm_14.2.2.1 pm_14.2.2.2.1) := by rfl
set_option maxRecDepth 100000 in
theorem pm_w15 : lw_tbl[654]? = some (Cond.code pm_15.1 pm_15.2.1 pm_15.2.2.1 pm_15.2.2.2.1) := by rfl
set_option maxRecDepth 100000 in
theorem pm_w16 : lw_tbl[699]? = some (Cond.code pm_16.1 pm_16.2.1 pm_16.2.2.1 pm_16.2.2.2.1) := by rfl
set_option maxRecDepth 100000 in
theorem pm_w17 : lw_tbl[715]? = some (Cond.code pm_17.1 pm_17.2.1 pm_17.2.2.1 pm_17.2.2.2.1) := by rfl
set_option maxRecDepth 100000 in
theorem pm_w18 : lw_tbl[635]? = some (Cond.code pm_18.1 pm_18.2.1 pm_18.2.2.1 pm_18.2.2.2.1) := by rfl
set_option maxRecDepth 100000 in
theorem pm_w19 : lw_tbl[226]? = some (Cond.code pm_19.1 pm_19.2.1 pm_19.2.2.1 pm_19.2.2.2.1) := by rfl
set_option maxRecDepth 100000 in
theorem pm_w20 : lw_tbl[494]? = some (Cond.code pm_20.1 pm_20.2.1 pm_20.2.2.1 pm_20.2.2.2.1) := by rfl
set_option maxRecDepth 100000 in
theorem pm_w21 : lw_tbl[498]? = some (Cond.code pm_21.1 pm_21.2.1 pm_21.2.2.1 pm_21.2.2.2.1) := by rfl
set_option maxRecDepth 100000 in
theorem pm_w22 : lw_tbl[502]? = some (Cond.code pm_22.1 pm_22.2.1 pm_22.2.2.1 pm_22.2.2.2.1) := by rfl
set_option maxRecDepth 100000 in
theorem pm_w23 : lw_tbl[515]? = some (Cond.code pm_23.1 pm_23.2.1 pm_23.2.2.1 pm_23.2.2.2.1) := by rfl
set_option maxRecDepth 100000 in
theorem pm_w24 : lw_tbl[506]? = some (Cond.code pm_24.1 pm_24.2.1 pm_24.2.2.1 pm_24.2.2.2.1) := by rfl
set_option maxRecDepth 100000 in
theorem pm_w25 : lw_tbl[511]? = some (Cond.code pm_25.1 pm_25.2.1 pm_25.2.2.1 pm_25.2.2.2.1) := by rfl
set_option maxRecDepth 100000 in
theorem pm_w26 : lw_tbl[536]? = some (Cond.code pm_26.1 pm_26.2.1 pm_26.2.2.1 pm_26.2.2.2.1) := by rfl
set_option maxRecDepth 100000 in
theorem pm_w27 : lw_tbl[527]? = some (Cond.code pm_27.1 pm_27.2.1 pm_27.2.2.1 pm_27.2.2.2.1) := by rfl
set_option maxRecDepth 100000 in
theorem pm_w28 : lw_tbl[531]? = some (Cond.code pm_28.1 pm_28.2.1 pm_28.2.2.1 pm_28.2.2.2.1) := by rfl
set_option maxRecDepth 100000 in
theorem pm_w29 : lw_tbl[239]? = some (Cond.code pm_29.1 pm_29.2.1 pm_29.2.2.1 pm_29.2.2.2.1) := by rfl
set_option maxRecDepth 100000 in
theorem pm_w30 : lw_tbl[386]? = some (Cond.code pm_30.1 pm_30.2.1 pm_30.2.2.1 pm_30.2.2.2.1) := by rfl
set_option maxRecDepth 100000 in
theorem pm_w31 : lw_tbl[598]? = some (Cond.code pm_31.1 pm_31.2.1 pm_31.2.2.1 pm_31.2.2.2.1) := by rfl
set_option maxRecDepth 100000 in
theorem pm_w32 : lw_tbl[602]? = some (Cond.code pm_32.1 pm_32.2.1 pm_32.2.2.1 pm_32.2.2.2.1) := by rfl
set_option maxRecDepth 100000 in
theorem pm_w33 : lw_tbl[727]? = some (Cond.code pm_33.1 pm_33.2.1 pm_33.2.2.1 pm_33.2.2.2.1) := by rfl
set_option maxRecDepth 100000 in
theorem pm_w34 : lw_tbl[612]? = some (Cond.code pm_34.1 pm_34.2.1 pm_34.2.2.1 pm_34.2.2.2.1) := by rfl
set_option maxRecDepth 100000 in
theorem pm_w35 : lw_tbl[619]? = some (Cond.code pm_35.1 pm_35.2.1 pm_35.2.2.1 pm_35.2.2.2.1) := by rfl
set_option maxRecDepth 100000 in
theorem pm_w36 : lw_tbl[623]? = some (Cond.code pm_36.1 pm_36.2.1 pm_36.2.2.1 pm_36.2.2.2.1) := by rfl
set_option maxRecDepth 100000 in
theorem pm_w37 : lw_tbl[627]? = some (Cond.code pm_37.1 pm_37.2.1 pm_37.2.2.1 pm_37.2.2.2.1) := by rfl
set_option maxRecDepth 100000 in
theorem pm_w38 : lw_tbl[631]? = some (Cond.code pm_38.1 pm_38.2.1 pm_38.2.2.1 pm_38.2.2.2.1) := by rfl
set_option maxRecDepth 100000 in
theorem pm_w39 : lw_tbl[681]? = some (Cond.code pm_39.1 pm_39.2.1 pm_39.2.2.1 pm_39.2.2.2.1) := by rfl
set_option maxRecDepth 100000 in
theorem pm_w40 : lw_tbl[686]? = some (Cond.code pm_40.1 pm_40.2.1 pm_40.2.2.1 pm_40.2.2.2.1) := by rfl
set_option maxRecDepth 100000 in
theorem pm_w41 : lw_tbl[707]? = some (Cond.code pm_41.1 pm_41.2.1 pm_41.2.2.1 pm_41.2.2.2.1) := by rfl
set_option maxRecDepth 100000 in
theorem pm_w42 : lw_tbl[691]? = some (Cond.code pm_42.1 pm_42.2.1 pm_42.2.2.1 pm_42.2.2.2.1) := by rfl
set_option maxRecDepth 100000 in
theorem pm_w43 : lw_tbl[677]? = some (Cond.code pm_43.1 pm_43.2.1 pm_43.2.2.1 pm_43.2.2.2.1) := by rfl
set_option maxRecDepth 100000 in
theorem pm_w44 : lw_tbl[695]? = some (Cond.code pm_44.1 pm_44.2.1 pm_44.2.2.1 pm_44.2.2.2.1) := by rfl
set_option maxRecDepth 100000 in
theorem pm_w45 : lw_tbl[719]? = some (Cond.code pm_45.1 pm_45.2.1 pm_45.2.2.1 pm_45.2.2.2.1) := by rfl
set_option maxRecDepth 100000 in
theorem pm_w46 : lw_tbl[711]? = some (Cond.code pm_46.1 pm_46.2.1 pm_46.2.2.1 pm_46.2.2.2.1) := by rfl
set_option maxRecDepth 100000 in
theorem pm_w47 : lw_tbl[282]? = some (Cond.code pm_47.1 pm_47.2.1 pm_47.2.2.1 pm_47.2.2.2.1) := by rfl
set_option maxRecDepth 100000 in
theorem pm_w48 : lw_tbl[390]? = some (Cond.code pm_48.1 pm_48.2.1 pm_48.2.2.1 pm_48.2.2.2.1) := by rfl
set_option maxRecDepth 100000 in
theorem pm_w49 : lw_tbl[703]? = some (Cond.code pm_49.1 pm_49.2.1 pm_49.2.2.1 pm_49.2.2.2.1) := by rfl
set_option maxRecDepth 100000 in
theorem pm_w50 : lw_tbl[743]? = some (Cond.code pm_50.1 pm_50.2.1 pm_50.2.2.1 pm_50.2.2.2.1) := by rfl
set_option maxRecDepth 100000 in
theorem pm_w51 : lw_tbl[100]? = some (Cond.code pm_51.1 pm_51.2.1 pm_51.2.2.1 pm_51.2.2.2.1) := by rfl
set_option maxRecDepth 100000 in
theorem pm_w52 : lw_tbl[398]? = some (Cond.code pm_52.1 pm_52.2.1 pm_52.2.2.1 pm_52.2.2.2.1) := by rfl
set_option maxRecDepth 100000 in
theorem pm_w53 : lw_tbl[410]? = some (Cond.code pm_53.1 pm_53.2.1 pm_53.2.2.1 pm_53.2.2.2.1) := by rfl
set_option maxRecDepth 100000 in
theorem pm_w54 : lw_tbl[486]? = some (Cond.code pm_54.1 pm_54.2.1 pm_54.2.2.1 pm_54.2.2.2.1) := by rfl
set_option maxRecDepth 100000 in
theorem pm_w55 : lw_tbl[206]? = some (Cond.code pm_55.1 pm_55.2.1 pm_55.2.2.1 pm_55.2.2.2.1) := by rfl
set_option maxRecDepth 100000 in
theorem pm_w56 : lw_tbl[490]? = some (Cond.code pm_56.1 pm_56.2.1 pm_56.2.2.1 pm_56.2.2.2.1) := by rfl
set_option maxRecDepth 100000 in
theorem pm_w57 : lw_tbl[378]? = some (Cond.code pm_57.1 pm_57.2.1 pm_57.2.2.1 pm_57.2.2.2.1) := by rfl
set_option maxRecDepth 100000 in
theorem pm_w58 : lw_tbl[394]? = some (Cond.code pm_58.1 pm_58.2.1 pm_58.2.2.1 pm_58.2.2.2.1) := by rfl
set_option maxRecDepth 100000 in
theorem pm_w59 : lw_tbl[418]? = some (Cond.code pm_59.1 pm_59.2.1 pm_59.2.2.1 pm_59.2.2.2.1) := by rfl
set_option maxRecDepth 100000 in
theorem pm_w60 : lw_tbl[426]? = some (Cond.code pm_60.1 pm_60.2.1 pm_60.2.2.1 pm_60.2.2.2.1) := by rfl
set_option maxRecDepth 100000 in
theorem pm_w61 : lw_tbl[406]? = some (Cond.code pm_61.1 pm_61.2.1 pm_61.2.2.1 pm_61.2.2.2.1) := by rfl
set_option maxRecDepth 100000 in
theorem pm_w62 : lw_tbl[478]? = some (Cond.code pm_62.1 pm_62.2.1 pm_62.2.2.1 pm_62.2.2.2.1) := by rfl
set_option maxRecDepth 100000 in
theorem pm_w63 : lw_tbl[422]? = some (Cond.code pm_63.1 pm_63.2.1 pm_63.2.2.1 pm_63.2.2.2.1) := by rfl
set_option maxRecDepth 100000 in
theorem pm_w64 : lw_tbl[482]? = some (Cond.code pm_64.1 pm_64.2.1 pm_64.2.2.1 pm_64.2.2.2.1) := by rfl
set_option maxRecDepth 100000 in
theorem pm_w65 : lw_tbl[414]? = some (Cond.code pm_65.1 pm_65.2.1 pm_65.2.2.1 pm_65.2.2.2.1) := by rfl
set_option maxRecDepth 100000 in
theorem pm_w66 : lw_tbl[454]? = some (Cond.code pm_66.1 pm_66.2.1 pm_66.2.2.1 pm_66.2.2.2.1) := by rfl
set_option maxRecDepth 100000 in
theorem pm_w67 : lw_tbl[462]? = some (Cond.code pm_67.1 pm_67.2.1 pm_67.2.2.1 pm_67.2.2.2.1) := by rfl
set_option maxRecDepth 100000 in
theorem pm_w68 : lw_tbl[466]? = some (Cond.code pm_68.1 pm_68.2.1 pm_68.2.2.1 pm_68.2.2.2.1) := by rfl
set_option maxRecDepth 100000 in
theorem pm_w69 : lw_tbl[470]? = some (Cond.code pm_69.1 pm_69.2.1 pm_69.2.2.1 pm_69.2.2.2.1) := by rfl
set_option maxRecDepth 100000 in
theorem pm_w70 : lw_tbl[474]? = some (Cond.code pm_70.1 pm_70.2.1 pm_70.2.2.1 pm_70.2.2.2.1) := by rfl
set_option maxRecDepth 100000 in
theorem pm_w71 : lw_tbl[450]? = some (Cond.code pm_71.1 pm_71.2.1 pm_71.2.2.1 pm_71.2.2.2.1) := by rfl
set_option maxRecDepth 100000 in
theorem pm_w72 : lw_tbl[458]? = some (Cond.code pm_72.1 pm_72.2.1 pm_72.2.2.1 pm_72.2.2.2.1) := by rfl
set_option maxRecDepth 100000 in
theorem pm_w73 : lw_tbl[430]? = some (Cond.code pm_73.1 pm_73.2.1 pm_73.2.2.1 pm_73.2.2.2.1) := by rfl
set_option maxRecDepth 100000 in
theorem pm_w74 : lw_tbl[434]? = some (Cond.code pm_74.1 pm_74.2.1 pm_74.2.2.1 pm_74.2.2.2.1) := by rfl
set_option maxRecDepth 100000 in
theorem pm_w75 : lw_tbl[106]? = some (Cond.code pm_75.1 pm_75.2.1 pm_75.2.2.1 pm_75.2.2.2.1) := by rfl
set_option maxRecDepth 100000 in
theorem pm_w76 : lw_tbl[402]? = some (Cond.code pm_76.1 pm_76.2.1 pm_76.2.2.1 pm_76.2.2.2.1) := by rfl
set_option maxRecDepth 100000 in
theorem pm_w77 : lw_tbl[446]? = some (Cond.code pm_77.1 pm_77.2.1 pm_77.2.2.1 pm_77.2.2.2.1) := by rfl
set_option maxRecDepth 100000 in
theorem pm_w78 : lw_tbl[438]? = some (Cond.code pm_78.1 pm_78.2.1 pm_78.2.2.1 pm_78.2.2.2.1) := by rfl
set_option maxRecDepth 100000 in
theorem pm_w79 : lw_tbl[442]? = some (Cond.code pm_79.1 pm_79.2.1 pm_79.2.2.1 pm_79.2.2.2.1) := by rfl
set_option maxRecDepth 100000 in
theorem pm_w80 : lw_tbl[650]? = some (Cond.code pm_80.1 pm_80.2.1 pm_80.2.2.1 pm_80.2.2.2.1) := by rfl
set_option maxRecDepth 100000 in
theorem pm_w81 : lw_tbl[519]? = some (Cond.code pm_81.1 pm_81.2.1 pm_81.2.2.1 pm_81.2.2.2.1) := by rfl
set_option maxRecDepth 100000 in
theorem pm_w82 : lw_tbl[523]? = some (Cond.code pm_82.1 pm_82.2.1 pm_82.2.2.1 pm_82.2.2.2.1) := by rfl
set_option maxRecDepth 100000 in
theorem pm_w83 : lw_tbl[548]? = some (Cond.code pm_83.1 pm_83.2.1 pm_83.2.2.1 pm_83.2.2.2.1) := by rfl
set_option maxRecDepth 100000 in
theorem pm_w84 : lw_tbl[615]? = some (Cond.code pm_84.1 pm_84.2.1 pm_84.2.2.1 pm_84.2.2.2.1) := by rfl
set_option maxRecDepth 100000 in
theorem pm_w85 : lw_tbl[661]? = some (Cond.code pm_85.1 pm_85.2.1 pm_85.2.2.1 pm_85.2.2.2.1) := by rfl
set_option maxRecDepth 100000 in
theorem pm_w86 : lw_tbl[657]? = some (Cond.code pm_86.1 pm_86.2.1 pm_86.2.2.1 pm_86.2.2.2.1) := by rfl
set_option maxRecDepth 100000 in
theorem pm_w87 : lw_tbl[642]? = some (Cond.code pm_87.1 pm_87.2.1 pm_87.2.2.1 pm_87.2.2.2.1) := by rfl
set_option maxRecDepth 100000 in
theorem pm_w88 : lw_tbl[638]? = some (Cond.code pm_88.1 pm_88.2.1 pm_88.2.2.1 pm_88.2.2.2.1) := by rfl
set_option maxRecDepth 100000 in
theorem pm_w89 : lw_tbl[731]? = some (Cond.code pm_89.1 pm_89.2.1 pm_89.2.2.1 pm_89.2.2.2.1) := by rfl
set_option maxRecDepth 100000 in
theorem pm_w90 : lw_tbl[664]? = some (Cond.code pm_90.1 pm_90.2.1 pm_90.2.2.1 pm_90.2.2.2.1) := by rfl
set_option maxRecDepth 100000 in
theorem pm_w91 : lw_tbl[672]? = some (Cond.code pm_91.1 pm_91.2.1 pm_91.2.2.1 pm_91.2.2.2.1) := by rfl
set_option maxRecDepth 100000 in
theorem pm_w92 : lw_tbl[668]? = some (Cond.code pm_92.1 pm_92.2.1 pm_92.2.2.1 pm_92.2.2.2.1) := by rfl
set_option maxRecDepth 100000 in
theorem pm_w93 : lw_tbl[756]? = some (Cond.code pm_93.1 pm_93.2.1 pm_93.2.2.1 pm_93.2.2.2.1) := by rfl
set_option maxRecDepth 100000 in
theorem pm_w94 : lw_tbl[948]? = some (Cond.code pm_94.1 pm_94.2.1 pm_94.2.2.1 pm_94.2.2.2.1) := by rfl
set_option maxRecDepth 100000 in
theorem pm_w95 : lw_tbl[956]? = some (Cond.code pm_95.1 pm_95.2.1 pm_95.2.2.1 pm_95.2.2.2.1) := by rfl
set_option maxRecDepth 100000 in
theorem pm_w96 : lw_tbl[1062]? = some (Cond.code pm_96.1 pm_96.2.1 pm_96.2.2.1 pm_96.2.2.2.1) := by rfl
set_option maxRecDepth 100000 in
theorem pm_w97 : lw_tbl[1005]? = some (Cond.code pm_97.1 pm_97.2.1 pm_97.2.2.1 pm_97.2.2.2.1) := by rfl
set_option maxRecDepth 100000 in
theorem pm_w98 : lw_tbl[1009]? = some (Cond.code pm_98.1 pm_98.2.1 pm_98.2.2.1 pm_98.2.2.2.1) := by rfl
set_option maxRecDepth 100000 in
theorem pm_w99 : lw_tbl[1013]? = some (Cond.code pm_99.1 pm_99.2.1 pm_99.2.2.1 pm_99.2.2.2.1) := by rfl
set_option maxRecDepth 100000 in
theorem pm_w100 : lw_tbl[972]? = some (Cond.code pm_100.1 pm_100.2.1 pm_100.2.2.1 pm_100.2.2.2.1) := by rfl
set_option maxRecDepth 100000 in
theorem pm_w101 : lw_tbl[990]? = some (Cond.code pm_101.1 pm_101.2.1 pm_101.2.2.1 pm_101.2.2.2.1) := by rfl
set_option maxRecDepth 100000 in
theorem pm_w102 : lw_tbl[982]? = some (Cond.code pm_102.1 pm_102.2.1 pm_102.2.2.1 pm_102.2.2.2.1) := by rfl
set_option maxRecDepth 100000 in
theorem pm_w103 : lw_tbl[979]? = some (Cond.code pm_103.1 pm_103.2.1 pm_103.2.2.1 pm_103.2.2.2.1) := by rfl
set_option maxRecDepth 100000 in
theorem pm_w104 : lw_tbl[986]? = some (Cond.code pm_104.1 pm_104.2.1 pm_104.2.2.1 pm_104.2.2.2.1) := by rfl
set_option maxRecDepth 100000 in
theorem pm_w105 : lw_tbl[976]? = some (Cond.code pm_105.1 pm_105.2.1 pm_105.2.2.1 pm_105.2.2.2.1) := by rfl
set_option maxRecDepth 100000 in
theorem pm_w106 : lw_tbl[968]? = some (Cond.code pm_106.1 pm_106.2.1 pm_106.2.2.1 pm_106.2.2.2.1) := by rfl
set_option maxRecDepth 100000 in
theorem pm_w107 : lw_tbl[994]? = some (Cond.code pm_107.1 pm_107.2.1 pm_107.2.2.1 pm_107.2.2.2.1) := by rfl
set_option maxRecDepth 100000 in
theorem pm_w108 : lw_tbl[997]? = some (Cond.code pm_108.1 pm_108.2.1 pm_108.2.2.1 pm_108.2.2.2.1) := by rfl
set_option maxRecDepth 100000 in
theorem pm_w109 : lw_tbl[964]? = some (Cond.code pm_109.1 pm_109.2.1 pm_109.2.2.1 pm_109.2.2.2.1) := by rfl
set_option maxRecDepth 100000 in
theorem pm_w110 : lw_tbl[1001]? = some (Cond.code pm_110.1 pm_110.2.1 pm_110.2.2.1 pm_110.2.2.2.1) := by rfl
set_option maxRecDepth 100000 in
theorem pm_w111 : lw_tbl[952]? = some (Cond.code pm_111.1 pm_111.2.1 pm_111.2.2.1 pm_111.2.2.2.1) := by rfl
set_option maxRecDepth 100000 in
theorem pm_w112 : lw_tbl[1026]? = some (Cond.code pm_112.1 pm_112.2.1 pm_112.2.2.1 pm_112.2.2.2.1) := by rfl
set_option maxRecDepth 100000 in
theorem pm_w113 : lw_tbl[1042]? = some (Cond.code pm_113.1 pm_113.2.1 pm_113.2.2.1 pm_113.2.2.2.1) := by rfl
set_option maxRecDepth 100000 in
theorem pm_w114 : lw_tbl[1058]? = some (Cond.code pm_114.1 pm_114.2.1 pm_114.2.2.1 pm_114.2.2.2.1) := by rfl
set_option maxRecDepth 100000 in
theorem pm_w115 : lw_tbl[1078]? = some (Cond.code pm_115.1 pm_115.2.1 pm_115.2.2.1 pm_115.2.2.2.1) := by rfl
set_option maxRecDepth 100000 in
theorem pm_w116 : lw_tbl[1050]? = some (Cond.code pm_116.1 pm_116.2.1 pm_116.2.2.1 pm_116.2.2.2.1) := by rfl
set_option maxRecDepth 100000 in
theorem pm_w117 : lw_tbl[1054]? = some (Cond.code pm_117.1 pm_117.2.1 pm_117.2.2.1 pm_117.2.2.2.1) := by rfl
set_option maxRecDepth 100000 in
theorem pm_w118 : lw_tbl[1094]? = some (Cond.code pm_118.1 pm_118.2.1 pm_118.2.2.1 pm_118.2.2.2.1) := by rfl
set_option maxRecDepth 100000 in
theorem pm_w119 : lw_tbl[1046]? = some (Cond.code pm_119.1 pm_119.2.1 pm_119.2.2.1 pm_119.2.2.2.1) := by rfl
set_option maxRecDepth 100000 in
theorem pm_w120 : lw_tbl[960]? = some (Cond.code pm_120.1 pm_120.2.1 pm_120.2.2.1 pm_120.2.2.2.1) := by rfl
set_option maxRecDepth 100000 in
theorem pm_w121 : lw_tbl[1034]? = some (Cond.code pm_121.1 pm_121.2.1 pm_121.2.2.1 pm_121.2.2.2.1) := by rfl
set_option maxRecDepth 100000 in
theorem pm_w122 : lw_tbl[1030]? = some (Cond.code pm_122.1 pm_122.2.1 pm_122.2.2.1 pm_122.2.2.2.1) := by rfl
set_option maxRecDepth 100000 in
theorem pm_w123 : lw_tbl[1022]? = some (Cond.code pm_123.1 pm_123.2.1 pm_123.2.2.1 pm_123.2.2.2.1) := by rfl
set_option maxRecDepth 100000 in
theorem pm_w124 : lw_tbl[1074]? = some (Cond.code pm_124.1 pm_124.2.1 pm_124.2.2.1 pm_124.2.2.2.1) := by rfl
set_option maxRecDepth 100000 in
theorem pm_w125 : lw_tbl[1070]? = some (Cond.code pm_125.1 pm_125.2.1 pm_125.2.2.1 pm_125.2.2.2.1) := by rfl
set_option maxRecDepth 100000 in
theorem pm_w126 : lw_tbl[1086]? = some (Cond.code pm_126.1 pm_126.2.1 pm_126.2.2.1 pm_126.2.2.2.1) := by rfl
set_option maxRecDepth 100000 in
theorem pm_w127 : lw_tbl[1066]? = some (Cond.code pm_127.1 pm_127.2.1 pm_127.2.2.1 pm_127.2.2.2.1) := by rfl
set_option maxRecDepth 100000 in
theorem pm_w128 : lw_tbl[1082]? = some (Cond.code pm_128.1 pm_128.2.1 pm_128.2.2.1 pm_128.2.2.2.1) := by rfl
set_option maxRecDepth 100000 in
theorem pm_w129 : lw_tbl[1090]? = some (Cond.code pm_129.1 pm_129.2.1 pm_129.2.2.1 pm_129.2.2.2.1) := by rfl
set_option maxRecDepth 100000 in
theorem pm_w130 : lw_tbl[1038]? = some (Cond.code pm_130.1 pm_130.2.1 pm_130.2.2.1 pm_130.2.2.2.1) := by rfl
set_option maxRecDepth 100000 in
theorem pm_w131 : lw_tbl[1017]? = some (Cond.code pm_131.1 pm_131.2.1 pm_131.2.2.1 pm_131.2.2.2.1) := by rfl
set_option maxRecDepth 100000 in
theorem pm_w132 : lw_tbl[1098]? = some (Cond.code pm_132.1 pm_132.2.1 pm_132.2.2.1 pm_132.2.2.2.1) := by rfl
set_option maxRecDepth 100000 in
theorem pm_w133 : lw_tbl[1102]? = some (Cond.code pm_133.1 pm_133.2.1 pm_133.2.2.1 pm_133.2.2.2.1) := by rfl
set_option maxRecDepth 100000 in
theorem pm_w134 : lw_tbl[1106]? = some (Cond.code pm_134.1 pm_134.2.1 pm_134.2.2.1 pm_134.2.2.2.1) := by rfl
set_option maxRecDepth 100000 in
theorem pm_w135 : lw_tbl[1110]? = some (Cond.code pm_135.1 pm_135.2.1 pm_135.2.2.1 pm_135.2.2.2.1) := by rfl
set_option maxRecDepth 100000 in
theorem pm_w136 : lw_tbl[1114]? = some (Cond.code pm_136.1 pm_136.2.1 pm_136.2.2.1 pm_136.2.2.2.1) := by rfl
set_option maxRecDepth 100000 in
theorem pm_w137 : lw_tbl[1118]? = some (Cond.code pm_137.1 pm_137.2.1 pm_137.2.2.1 pm_137.2.2.2.1) := by rfl
set_option maxRecDepth 100000 in
theorem pm_w138 : lw_tbl[1122]? = some (Cond.code pm_138.1 pm_138.2.1 pm_138.2.2.1 pm_138.2.2.2.1) := by rfl
theorem pm_wa : ∀ i : Nat, 0 < i → i < 139 → ∃ p : Nat, lw_tbl[p]? = some (Cond.code (pm_name i) (pm_code i) (pm_maxL i) (pm_ret i))
  | 0, h, _ => absurd h (by omega)
  | 1, _, _ => ⟨_, pm_w1⟩
  | 2, _, _ => ⟨_, pm_w2⟩
  | 3, _, _ => ⟨_, pm_w3⟩
  | 4, _, _ => ⟨_, pm_w4⟩
  | 5, _, _ => ⟨_, pm_w5⟩
  | 6, _, _ => ⟨_, pm_w6⟩
  | 7, _, _ => ⟨_, pm_w7⟩
  | 8, _, _ => ⟨_, pm_w8⟩
  | 9, _, _ => ⟨_, pm_w9⟩
  | 10, _, _ => ⟨_, pm_w10⟩
  | 11, _, _ => ⟨_, pm_w11⟩
  | 12, _, _ => ⟨_, pm_w12⟩
  | 13, _, _ => ⟨_, pm_w13⟩
  | 14, _, _ => ⟨_, pm_w14⟩
  | 15, _, _ => ⟨_, pm_w15⟩
  | 16, _, _ => ⟨_, pm_w16⟩
  | 17, _, _ => ⟨_, pm_w17⟩
  | 18, _, _ => ⟨_, pm_w18⟩
  | 19, _, _ => ⟨_, pm_w19⟩
  | 20, _, _ => ⟨_, pm_w20⟩
  | 21, _, _ => ⟨_, pm_w21⟩
  | 22, _, _ => ⟨_, pm_w22⟩
  | 23, _, _ => ⟨_, pm_w23⟩
  | 24, _, _ => ⟨_, pm_w24⟩
  | 25, _, _ => ⟨_, pm_w25⟩
  | 26, _, _ => ⟨_, pm_w26⟩
  | 27, _, _ => ⟨_, pm_w27⟩
  | 28, _, _ => ⟨_, pm_w28⟩
  | 29, _, _ => ⟨_, pm_w29⟩
  | 30, _, _ => ⟨_, pm_w30⟩
  | 31, _, _ => ⟨_, pm_w31⟩
  | 32, _, _ => ⟨_, pm_w32⟩
  | 33, _, _ => ⟨_, pm_w33⟩
  | 34, _, _ => ⟨_, pm_w34⟩
  | 35, _, _ => ⟨_, pm_w35⟩
  | 36, _, _ => ⟨_, pm_w36⟩
  | 37, _, _ => ⟨_, pm_w37⟩
  | 38, _, _ => ⟨_, pm_w38⟩
  | 39, _, _ => ⟨_, pm_w39⟩
  | 40, _, _ => ⟨_, pm_w40⟩
  | 41, _, _ => ⟨_, pm_w41⟩
  | 42, _, _ => ⟨_, pm_w42⟩
  | 43, _, _ => ⟨_, pm_w43⟩
  | 44, _, _ => ⟨_, pm_w44⟩
  | 45, _, _ => ⟨_, pm_w45⟩
  | 46, _, _ => ⟨_, pm_w46⟩
  | 47, _, _ => ⟨_, pm_w47⟩
  | 48, _, _ => ⟨_, pm_w48⟩
  | 49, _, _ => ⟨_, pm_w49⟩
  | 50, _, _ => ⟨_, pm_w50⟩
  | 51, _, _ => ⟨_, pm_w51⟩
  | 52, _, _ => ⟨_, pm_w52⟩
  | 53, _, _ => ⟨_, pm_w53⟩
  | 54, _, _ => ⟨_, pm_w54⟩
  | 55, _, _ => ⟨_, pm_w55⟩
  | 56, _, _ => ⟨_, pm_w56⟩
  | 57, _, _ => ⟨_, pm_w57⟩
  | 58, _, _ => ⟨_, pm_w58⟩
  | 59, _, _ => ⟨_, pm_w59⟩
  | 60, _, _ => ⟨_, pm_w60⟩
  | 61, _, _ => ⟨_, pm_w61⟩
  | 62, _, _ => ⟨_, pm_w62⟩
  | 63, _, _ => ⟨_, pm_w63⟩
  | 64, _, _ => ⟨_, pm_w64⟩
  | 65, _, _ => ⟨_, pm_w65⟩
  | 66, _, _ => ⟨_, pm_w66⟩
  | 67, _, _ => ⟨_, pm_w67⟩
  | 68, _, _ => ⟨_, pm_w68⟩
  | 69, _, _ => ⟨_, pm_w69⟩
  | 70, _, _ => ⟨_, pm_w70⟩
  | 71, _, _ => ⟨_, pm_w71⟩
  | 72, _, _ => ⟨_, pm_w72⟩
  | 73, _, _ => ⟨_, pm_w73⟩
  | 74, _, _ => ⟨_, pm_w74⟩
  | 75, _, _ => ⟨_, pm_w75⟩
  | 76, _, _ => ⟨_, pm_w76⟩
  | 77, _, _ => ⟨_, pm_w77⟩
  | 78, _, _ => ⟨_, pm_w78⟩
  | 79, _, _ => ⟨_, pm_w79⟩
  | 80, _, _ => ⟨_, pm_w80⟩
  | 81, _, _ => ⟨_, pm_w81⟩
  | 82, _, _ => ⟨_, pm_w82⟩
  | 83, _, _ => ⟨_, pm_w83⟩
  | 84, _, _ => ⟨_, pm_w84⟩
  | 85, _, _ => ⟨_, pm_w85⟩
  | 86, _, _ => ⟨_, pm_w86⟩
  | 87, _, _ => ⟨_, pm_w87⟩
  | 88, _, _ => ⟨_, pm_w88⟩
  | 89, _, _ => ⟨_, pm_w89⟩
  | 90, _, _ => ⟨_, pm_w90⟩
  | 91, _, _ => ⟨_, pm_w91⟩
  | 92, _, _ => ⟨_, pm_w92⟩
  | 93, _, _ => ⟨_, pm_w93⟩
  | 94, _, _ => ⟨_, pm_w94⟩
  | 95, _, _ => ⟨_, pm_w95⟩
  | 96, _, _ => ⟨_, pm_w96⟩
  | 97, _, _ => ⟨_, pm_w97⟩
  | 98, _, _ => ⟨_, pm_w98⟩
  | 99, _, _ => ⟨_, pm_w99⟩
  | 100, _, _ => ⟨_, pm_w100⟩
  | 101, _, _ => ⟨_, pm_w101⟩
  | 102, _, _ => ⟨_, pm_w102⟩
  | 103, _, _ => ⟨_, pm_w103⟩
  | 104, _, _ => ⟨_, pm_w104⟩
  | 105, _, _ => ⟨_, pm_w105⟩
  | 106, _, _ => ⟨_, pm_w106⟩
  | 107, _, _ => ⟨_, pm_w107⟩
  | 108, _, _ => ⟨_, pm_w108⟩
  | 109, _, _ => ⟨_, pm_w109⟩
  | 110, _, _ => ⟨_, pm_w110⟩
  | 111, _, _ => ⟨_, pm_w111⟩
  | 112, _, _ => ⟨_, pm_w112⟩
  | 113, _, _ => ⟨_, pm_w113⟩
  | 114, _, _ => ⟨_, pm_w114⟩
  | 115, _, _ => ⟨_, pm_w115⟩
  | 116, _, _ => ⟨_, pm_w116⟩
  | 117, _, _ => ⟨_, pm_w117⟩
  | 118, _, _ => ⟨_, pm_w118⟩
  | 119, _, _ => ⟨_, pm_w119⟩
  | 120, _, _ => ⟨_, pm_w120⟩
  | 121, _, _ => ⟨_, pm_w121⟩
  | 122, _, _ => ⟨_, pm_w122⟩
  | 123, _, _ => ⟨_, pm_w123⟩
  | 124, _, _ => ⟨_, pm_w124⟩
  | 125, _, _ => ⟨_, pm_w125⟩
  | 126, _, _ => ⟨_, pm_w126⟩
  | 127, _, _ => ⟨_, pm_w127⟩
  | 128, _, _ => ⟨_, pm_w128⟩
  | 129, _, _ => ⟨_, pm_w129⟩
  | 130, _, _ => ⟨_, pm_w130⟩
  | 131, _, _ => ⟨_, pm_w131⟩
  | 132, _, _ => ⟨_, pm_w132⟩
  | 133, _, _ => ⟨_, pm_w133⟩
  | 134, _, _ => ⟨_, pm_w134⟩
  | 135, _, _ => ⟨_, pm_w135⟩
  | 136, _, _ => ⟨_, pm_w136⟩
  | 137, _, _ => ⟨_, pm_w137⟩
  | 138, _, _ => ⟨_, pm_w138⟩
  | n + 139, _, h => absurd h (by omega)
set_option maxRecDepth 100000 in
theorem pm_xa : (List.range 139).all pm_xck = true := by decide +kernel
theorem pm_cw_of {mj n : Nat} (h0 : 0 < mj) (h1 : mj < 139) (hp : (parseMethodDescriptor (pm_name mj).desc).map (fun d => d.parameters.length) = some n) : pm_cw mj n := by
  have h := List.all_eq_true.mp pm_xa mj (List.mem_range.mpr h1)
  unfold pm_xck at h
  simp only [Bool.and_eq_true, Bool.not_eq_true', beq_eq_false_iff_ne] at h
  obtain ⟨p, hw⟩ := pm_wa mj h0 h1
  exact ⟨List.mem_filter.mpr ⟨List.mem_of_getElem? hw, rfl⟩, h.1.1, h.1.2, hp, of_decide_eq_true h.2⟩
theorem pm_mth_of {mi k kd mj n ci : Nat} (h : pm_mth mi k = some (kd, mj, n, ci)) : ∃ p1 p2 p3 p4 : Nat, pm_mck (pm_oc mi) (k, kd, mj, n, ci, p1, p2, p3, p4) = true := by
  unfold pm_mth at h
  split at h
  · rename_i kd' mj' n' ci' p hq
    cases h
    obtain ⟨p1, p2, p3, p4⟩ := p
    exact ⟨p1, p2, p3, p4, List.all_eq_true.mp (pm_mok (pm_oc mi)) _ (am_fd_in _ _ _ hq)⟩
  · cases h
theorem pm_mth_ok0 {mi k mj n ci : Nat} (h : pm_mth mi k = some (0, mj, n, ci)) : ∃ (C : String) (T : u_T) (N : Nat), pm_cl[ci]? = some (C, T, N) ∧ (pm_name mj).cls = C ∧ Cond.methodLink (pm_own mi) k (pm_name mj) ∈ pm_tb ∧ Cond.instanceMethod (pm_name mj) ∈ pm_tb ∧ Cond.selects C (pm_name mj) (pm_name mj) ∈ pm_tb ∧ Cond.initialized C ∈ pm_tb ∧ pm_cw mj n := by
  obtain ⟨p1, p2, p3, p4, h1⟩ := pm_mth_of h
  unfold pm_mck at h1
  simp only [Bool.and_eq_true] at h1
  obtain ⟨⟨⟨⟨⟨h2, h3⟩, h4⟩, h5⟩, h6⟩, ⟨h7, h8⟩, h9⟩ := h1
  split at h9
  · rename_i C T N hc
    have hC : C = pm_own mj := eq_of_beq h9
    subst hC
    exact ⟨_, T, N, hc, rfl, by rw [pm_own_on]; exact pm_in_tb h2, pm_in_tb h7, pm_in_tb h8, pm_in_tb h3, pm_cw_of (by simpa using h4) (by simpa using h5) (of_decide_eq_true h6)⟩
  · cases h9
theorem pm_mth_ok1 {mi k mj n ci : Nat} (h : pm_mth mi k = some (1, mj, n, ci)) : Cond.methodLink (pm_own mi) k (pm_name mj) ∈ pm_tb ∧ Cond.static (pm_name mj) ∈ pm_tb ∧ Cond.initialized (pm_name mj).cls ∈ pm_tb ∧ pm_cw mj n := by
  obtain ⟨p1, p2, p3, p4, h1⟩ := pm_mth_of h
  unfold pm_mck at h1
  simp only [Bool.and_eq_true] at h1
  obtain ⟨⟨⟨⟨⟨h2, h3⟩, h4⟩, h5⟩, h6⟩, h7⟩ := h1
  exact ⟨by rw [pm_own_on]; exact pm_in_tb h2, pm_in_tb h7, pm_in_tb h3, pm_cw_of (by simpa using h4) (by simpa using h5) (of_decide_eq_true h6)⟩
theorem pm_mth_ok2 {mi k mj n ci : Nat} (h : pm_mth mi k = some (2, mj, n, ci)) : Cond.methodLink (pm_own mi) k (pm_name mj) ∈ pm_tb ∧ Cond.instanceMethod (pm_name mj) ∈ pm_tb ∧ Cond.initialized (pm_name mj).cls ∈ pm_tb ∧ (pm_name mj).name = "<init>" ∧ pm_ret mj = none ∧ pm_cw mj n := by
  obtain ⟨p1, p2, p3, p4, h1⟩ := pm_mth_of h
  unfold pm_mck at h1
  simp only [Bool.and_eq_true] at h1
  obtain ⟨⟨⟨⟨⟨h2, h3⟩, h4⟩, h5⟩, h6⟩, ⟨h7, h8⟩, h9⟩ := h1
  exact ⟨by rw [pm_own_on]; exact pm_in_tb h2, pm_in_tb h7, pm_in_tb h3, eq_of_beq h8, of_decide_eq_true h9, pm_cw_of (by simpa using h4) (by simpa using h5) (of_decide_eq_true h6)⟩
theorem pm_cls_ok {mi k ci : Nat} (h : pm_cls mi k = some ci) : ∃ (C : String) (T : u_T) (N : Nat), pm_cl[ci]? = some (C, T, N) ∧ Cond.classLink (pm_own mi) k C ∈ pm_tb := by
  unfold pm_cls at h
  split at h
  · rename_i ci' p hq
    cases h
    have h1 := List.all_eq_true.mp (pm_nok (pm_oc mi)) _ (am_fd_in _ _ _ hq)
    unfold pm_nck at h1
    split at h1
    · rename_i C T N hc
      exact ⟨C, T, N, hc, by rw [pm_own_on]; exact pm_in_tb h1⟩
    · cases h1
  · cases h
theorem pm_int_ok {mi k : Nat} {v : Int32} (h : pm_int mi k = some v) : Cond.constant (pm_own mi) k v ∈ pm_tb := by
  unfold pm_int at h
  split at h
  · rename_i v' p hq
    cases h
    have h1 := List.all_eq_true.mp (pm_iok (pm_oc mi)) _ (am_fd_in _ _ _ hq)
    rw [pm_own_on]
    exact pm_in_tb h1
  · cases h
theorem pm_long_ok {mi k : Nat} {v : Int64} (h : pm_long mi k = some v) : Cond.constantLong (pm_own mi) k v ∈ pm_tb := by
  unfold pm_long at h
  split at h
  · rename_i v' p hq
    cases h
    have h1 := List.all_eq_true.mp (pm_lok (pm_oc mi)) _ (am_fd_in _ _ _ hq)
    rw [pm_own_on]
    exact pm_in_tb h1
  · cases h
theorem pm_ob1 : Cond.instanceMethod objectInit ∈ pm_tb := pm_in_tb (i := 94) (by decide +kernel)
theorem pm_ob2 : Cond.code objectInit ⟨#[0xb1]⟩ 1 none ∈ pm_tb := pm_in_tb (i := 95) (by decide +kernel)
theorem pm_obj_ok {mi k : Nat} (h : pm_obj mi k = true) : Cond.methodLink (pm_own mi) k objectInit ∈ pm_tb ∧ Cond.instanceMethod objectInit ∈ pm_tb ∧ Cond.code objectInit ⟨#[0xb1]⟩ 1 none ∈ pm_tb := by
  unfold pm_obj at h
  split at h
  · rename_i p hq
    have h1 := List.all_eq_true.mp (pm_ook (pm_oc mi)) _ (am_fd_in _ _ _ hq)
    exact ⟨by rw [pm_own_on]; exact pm_in_tb h1, pm_ob1, pm_ob2⟩
  · cases h
theorem pm_ar1 : Cond.arrayClass .int ∈ pm_tb := pm_in_tb (i := 129) (by decide +kernel)
theorem pm_ar2 : Cond.arrayClass .long ∈ pm_tb := pm_in_tb (i := 277) (by decide +kernel)
theorem pm_ar3 : Cond.arrayClass .char ∈ pm_tb := pm_in_tb (i := 221) (by decide +kernel)
theorem pm_arr_ok (t : Jvm.ClassFile.ArrayType) (h : newarray.typeOf t = .int ∨ newarray.typeOf t = .long ∨ newarray.typeOf t = .char) : Cond.arrayClass (newarray.typeOf t) ∈ pm_tb := by
  rcases h with h | h | h
  · rw [h]; exact pm_ar1
  · rw [h]; exact pm_ar2
  · rw [h]; exact pm_ar3
def pm_nr (v : Value) : Bool := match v with
  | .ref _ => false
  | _ => true
theorem pm_def_all : ∀ ci : Nat, (pm_def ci).all pm_nr = true
  | 0 => by decide +kernel
  | 1 => by decide +kernel
  | 2 => by decide +kernel
  | 3 => by decide +kernel
  | 4 => by decide +kernel
  | 5 => by decide +kernel
  | 6 => by decide +kernel
  | 7 => by decide +kernel
  | 8 => by decide +kernel
  | _ + 9 => rfl
theorem pm_def_nr (ci : Nat) (v : Value) (h : v ∈ pm_def ci) : pm_nr v = true := List.all_eq_true.mp (pm_def_all ci) v h
