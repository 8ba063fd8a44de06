theorem ww_81 : (Jvm.Cond.methodLink "PakeDeskLaw" (54 : Nat) ({ cls := "PakeDesk", name := "register", desc := "(IIJJ)Z" } : Jvm.MethodName)) ∈ gt_tbl := gt_m (List.mem_append_right _ (List.mem_append_left _ (List.mem_of_getElem? (i := 81) (by decide +kernel)))) (by decide)
theorem ww_82 : (Jvm.Cond.instanceMethod ({ cls := "PakeDesk", name := "register", desc := "(IIJJ)Z" } : Jvm.MethodName)) ∈ gt_tbl := gt_m (List.mem_append_right _ (List.mem_append_left _ (List.mem_of_getElem? (i := 82) (by decide +kernel)))) (by decide)
theorem ww_83 : (Jvm.Cond.selects "PakeDesk" ({ cls := "PakeDesk", name := "register", desc := "(IIJJ)Z" } : Jvm.MethodName) ({ cls := "PakeDesk", name := "register", desc := "(IIJJ)Z" } : Jvm.MethodName)) ∈ gt_tbl := gt_m (List.mem_append_right _ (List.mem_append_left _ (List.mem_of_getElem? (i := 83) (by decide +kernel)))) (by decide)
theorem ww_84 : (Jvm.Cond.code ({ cls := "PakeDesk", name := "register", desc := "(IIJJ)Z" } : Jvm.MethodName) prog_1_method_2_code (8 : Nat) (Option.some Jvm.ClassFile.FieldType.boolean)) ∈ gt_tbl := gt_m (List.mem_append_right _ (List.mem_append_left _ (List.mem_of_getElem? (i := 84) (by decide +kernel)))) (by decide)
theorem ww_130 : (Jvm.Cond.methodLink "PakeDeskLaw" (59 : Nat) ({ cls := "PakeDesk", name := "forget", desc := "(I)Z" } : Jvm.MethodName)) ∈ gt_tbl := gt_m (List.mem_append_right _ (List.mem_append_left _ (List.mem_of_getElem? (i := 130) (by decide +kernel)))) (by decide)
theorem ww_131 : (Jvm.Cond.instanceMethod ({ cls := "PakeDesk", name := "forget", desc := "(I)Z" } : Jvm.MethodName)) ∈ gt_tbl := gt_m (List.mem_append_right _ (List.mem_append_left _ (List.mem_of_getElem? (i := 131) (by decide +kernel)))) (by decide)
theorem ww_132 : (Jvm.Cond.selects "PakeDesk" ({ cls := "PakeDesk", name := "forget", desc := "(I)Z" } : Jvm.MethodName) ({ cls := "PakeDesk", name := "forget", desc := "(I)Z" } : Jvm.MethodName)) ∈ gt_tbl := gt_m (List.mem_append_right _ (List.mem_append_left _ (List.mem_of_getElem? (i := 132) (by decide +kernel)))) (by decide)
theorem ww_133 : (Jvm.Cond.code ({ cls := "PakeDesk", name := "forget", desc := "(I)Z" } : Jvm.MethodName) prog_1_method_3_code (3 : Nat) (Option.some Jvm.ClassFile.FieldType.boolean)) ∈ gt_tbl := gt_m (List.mem_append_right _ (List.mem_append_left _ (List.mem_of_getElem? (i := 133) (by decide +kernel)))) (by decide)
theorem ww_134 : (Jvm.Cond.methodLink "PakeDeskLaw" (64 : Nat) ({ cls := "PakeDesk", name := "way", desc := "(I)I" } : Jvm.MethodName)) ∈ gt_tbl := gt_m (List.mem_append_right _ (List.mem_append_left _ (List.mem_of_getElem? (i := 134) (by decide +kernel)))) (by decide)
theorem ww_135 : (Jvm.Cond.instanceMethod ({ cls := "PakeDesk", name := "way", desc := "(I)I" } : Jvm.MethodName)) ∈ gt_tbl := gt_m (List.mem_append_right _ (List.mem_append_left _ (List.mem_of_getElem? (i := 135) (by decide +kernel)))) (by decide)
theorem ww_136 : (Jvm.Cond.selects "PakeDesk" ({ cls := "PakeDesk", name := "way", desc := "(I)I" } : Jvm.MethodName) ({ cls := "PakeDesk", name := "way", desc := "(I)I" } : Jvm.MethodName)) ∈ gt_tbl := gt_m (List.mem_append_right _ (List.mem_append_left _ (List.mem_of_getElem? (i := 136) (by decide +kernel)))) (by decide)
theorem ww_137 : (Jvm.Cond.code ({ cls := "PakeDesk", name := "way", desc := "(I)I" } : Jvm.MethodName) prog_1_method_4_code (3 : Nat) (Option.some Jvm.ClassFile.FieldType.int)) ∈ gt_tbl := gt_m (List.mem_append_right _ (List.mem_append_left _ (List.mem_of_getElem? (i := 137) (by decide +kernel)))) (by decide)
theorem ww_138 : (Jvm.Cond.methodLink "PakeDeskLaw" (68 : Nat) ({ cls := "PakeDesk", name := "salt", desc := "(I)J" } : Jvm.MethodName)) ∈ gt_tbl := gt_m (List.mem_append_right _ (List.mem_append_left _ (List.mem_of_getElem? (i := 138) (by decide +kernel)))) (by decide)
theorem ww_139 : (Jvm.Cond.instanceMethod ({ cls := "PakeDesk", name := "salt", desc := "(I)J" } : Jvm.MethodName)) ∈ gt_tbl := gt_m (List.mem_append_right _ (List.mem_append_left _ (List.mem_of_getElem? (i := 139) (by decide +kernel)))) (by decide)
theorem ww_140 : (Jvm.Cond.selects "PakeDesk" ({ cls := "PakeDesk", name := "salt", desc := "(I)J" } : Jvm.MethodName) ({ cls := "PakeDesk", name := "salt", desc := "(I)J" } : Jvm.MethodName)) ∈ gt_tbl := gt_m (List.mem_append_right _ (List.mem_append_left _ (List.mem_of_getElem? (i := 140) (by decide +kernel)))) (by decide)
theorem ww_141 : (Jvm.Cond.code ({ cls := "PakeDesk", name := "salt", desc := "(I)J" } : Jvm.MethodName) prog_1_method_5_code (3 : Nat) (Option.some Jvm.ClassFile.FieldType.long)) ∈ gt_tbl := gt_m (List.mem_append_right _ (List.mem_append_left _ (List.mem_of_getElem? (i := 141) (by decide +kernel)))) (by decide)
theorem ww_146 : (Jvm.Cond.methodLink "PakeDeskLaw" (91 : Nat) ({ cls := "PakeDesk", name := "message", desc := "(I)J" } : Jvm.MethodName)) ∈ gt_tbl := gt_m (List.mem_append_right _ (List.mem_append_left _ (List.mem_of_getElem? (i := 146) (by decide +kernel)))) (by decide)
theorem ww_147 : (Jvm.Cond.instanceMethod ({ cls := "PakeDesk", name := "message", desc := "(I)J" } : Jvm.MethodName)) ∈ gt_tbl := gt_m (List.mem_append_right _ (List.mem_append_left _ (List.mem_of_getElem? (i := 147) (by decide +kernel)))) (by decide)
theorem ww_148 : (Jvm.Cond.selects "PakeDesk" ({ cls := "PakeDesk", name := "message", desc := "(I)J" } : Jvm.MethodName) ({ cls := "PakeDesk", name := "message", desc := "(I)J" } : Jvm.MethodName)) ∈ gt_tbl := gt_m (List.mem_append_right _ (List.mem_append_left _ (List.mem_of_getElem? (i := 148) (by decide +kernel)))) (by decide)
theorem ww_149 : (Jvm.Cond.code ({ cls := "PakeDesk", name := "message", desc := "(I)J" } : Jvm.MethodName) prog_1_method_10_code (2 : Nat) (Option.some Jvm.ClassFile.FieldType.long)) ∈ gt_tbl := gt_m (List.mem_append_right _ (List.mem_append_left _ (List.mem_of_getElem? (i := 149) (by decide +kernel)))) (by decide)
theorem ww_158 : (Jvm.Cond.methodLink "PakeDeskLaw" (99 : Nat) ({ cls := "PakeDesk", name := "state", desc := "(I)I" } : Jvm.MethodName)) ∈ gt_tbl := gt_m (List.mem_append_right _ (List.mem_append_left _ (List.mem_of_getElem? (i := 158) (by decide +kernel)))) (by decide)
theorem ww_159 : (Jvm.Cond.instanceMethod ({ cls := "PakeDesk", name := "state", desc := "(I)I" } : Jvm.MethodName)) ∈ gt_tbl := gt_m (List.mem_append_right _ (List.mem_append_left _ (List.mem_of_getElem? (i := 159) (by decide +kernel)))) (by decide)
theorem ww_160 : (Jvm.Cond.selects "PakeDesk" ({ cls := "PakeDesk", name := "state", desc := "(I)I" } : Jvm.MethodName) ({ cls := "PakeDesk", name := "state", desc := "(I)I" } : Jvm.MethodName)) ∈ gt_tbl := gt_m (List.mem_append_right _ (List.mem_append_left _ (List.mem_of_getElem? (i := 160) (by decide +kernel)))) (by decide)
theorem ww_161 : (Jvm.Cond.code ({ cls := "PakeDesk", name := "state", desc := "(I)I" } : Jvm.MethodName) prog_1_method_12_code (3 : Nat) (Option.some Jvm.ClassFile.FieldType.int)) ∈ gt_tbl := gt_m (List.mem_append_right _ (List.mem_append_left _ (List.mem_of_getElem? (i := 161) (by decide +kernel)))) (by decide)
theorem ww_168 : (Jvm.Cond.methodLink "PakeDeskLaw" (103 : Nat) ({ cls := "PakeDesk", name := "blocked", desc := "(I)Z" } : Jvm.MethodName)) ∈ gt_tbl := gt_m (List.mem_append_right _ (List.mem_append_left _ (List.mem_of_getElem? (i := 168) (by decide +kernel)))) (by decide)
theorem ww_169 : (Jvm.Cond.instanceMethod ({ cls := "PakeDesk", name := "blocked", desc := "(I)Z" } : Jvm.MethodName)) ∈ gt_tbl := gt_m (List.mem_append_right _ (List.mem_append_left _ (List.mem_of_getElem? (i := 169) (by decide +kernel)))) (by decide)
theorem ww_170 : (Jvm.Cond.selects "PakeDesk" ({ cls := "PakeDesk", name := "blocked", desc := "(I)Z" } : Jvm.MethodName) ({ cls := "PakeDesk", name := "blocked", desc := "(I)Z" } : Jvm.MethodName)) ∈ gt_tbl := gt_m (List.mem_append_right _ (List.mem_append_left _ (List.mem_of_getElem? (i := 170) (by decide +kernel)))) (by decide)
theorem ww_171 : (Jvm.Cond.code ({ cls := "PakeDesk", name := "blocked", desc := "(I)Z" } : Jvm.MethodName) prog_1_method_13_code (3 : Nat) (Option.some Jvm.ClassFile.FieldType.boolean)) ∈ gt_tbl := gt_m (List.mem_append_right _ (List.mem_append_left _ (List.mem_of_getElem? (i := 171) (by decide +kernel)))) (by decide)
theorem ww_176 : (Jvm.Cond.methodLink "PakeDeskLaw" (110 : Nat) ({ cls := "PakeDesk", name := "sessions", desc := "()I" } : Jvm.MethodName)) ∈ gt_tbl := gt_m (List.mem_append_right _ (List.mem_append_left _ (List.mem_of_getElem? (i := 176) (by decide +kernel)))) (by decide)
theorem ww_177 : (Jvm.Cond.instanceMethod ({ cls := "PakeDesk", name := "sessions", desc := "()I" } : Jvm.MethodName)) ∈ gt_tbl := gt_m (List.mem_append_right _ (List.mem_append_left _ (List.mem_of_getElem? (i := 177) (by decide +kernel)))) (by decide)
theorem ww_178 : (Jvm.Cond.selects "PakeDesk" ({ cls := "PakeDesk", name := "sessions", desc := "()I" } : Jvm.MethodName) ({ cls := "PakeDesk", name := "sessions", desc := "()I" } : Jvm.MethodName)) ∈ gt_tbl := gt_m (List.mem_append_right _ (List.mem_append_left _ (List.mem_of_getElem? (i := 178) (by decide +kernel)))) (by decide)
theorem ww_179 : (Jvm.Cond.code ({ cls := "PakeDesk", name := "sessions", desc := "()I" } : Jvm.MethodName) prog_1_method_15_code (1 : Nat) (Option.some Jvm.ClassFile.FieldType.int)) ∈ gt_tbl := gt_m (List.mem_append_right _ (List.mem_append_left _ (List.mem_of_getElem? (i := 179) (by decide +kernel)))) (by decide)
theorem ww_723 : (Jvm.Cond.methodLink "PakeDeskLaw" (58 : Nat) ({ cls := "PakeDeskModel", name := "register", desc := "(IIJJ)Z" } : Jvm.MethodName)) ∈ gt_tbl := gt_m (List.mem_append_right _ (List.mem_append_right _ (List.mem_append_right _ (List.mem_append_right _ (List.mem_of_getElem? (i := 3) (by decide +kernel)))))) (by decide)
theorem ww_724 : (Jvm.Cond.instanceMethod ({ cls := "PakeDeskModel", name := "register", desc := "(IIJJ)Z" } : Jvm.MethodName)) ∈ gt_tbl := gt_m (List.mem_append_right _ (List.mem_append_right _ (List.mem_append_right _ (List.mem_append_right _ (List.mem_of_getElem? (i := 4) (by decide +kernel)))))) (by decide)
theorem ww_725 : (Jvm.Cond.selects "PakeDeskModel" ({ cls := "PakeDeskModel", name := "register", desc := "(IIJJ)Z" } : Jvm.MethodName) ({ cls := "PakeDeskModel", name := "register", desc := "(IIJJ)Z" } : Jvm.MethodName)) ∈ gt_tbl := gt_m (List.mem_append_right _ (List.mem_append_right _ (List.mem_append_right _ (List.mem_append_right _ (List.mem_of_getElem? (i := 5) (by decide +kernel)))))) (by decide)
theorem ww_726 : (Jvm.Cond.code ({ cls := "PakeDeskModel", name := "register", desc := "(IIJJ)Z" } : Jvm.MethodName) prog_9_method_13_code (7 : Nat) (Option.some Jvm.ClassFile.FieldType.boolean)) ∈ gt_tbl := gt_m (List.mem_append_right _ (List.mem_append_right _ (List.mem_append_right _ (List.mem_append_right _ (List.mem_of_getElem? (i := 6) (by decide +kernel)))))) (by decide)
theorem ww_767 : (Jvm.Cond.methodLink "PakeDeskLaw" (63 : Nat) ({ cls := "PakeDeskModel", name := "forget", desc := "(I)Z" } : Jvm.MethodName)) ∈ gt_tbl := gt_m (List.mem_append_right _ (List.mem_append_right _ (List.mem_append_right _ (List.mem_append_right _ (List.mem_of_getElem? (i := 47) (by decide +kernel)))))) (by decide)
theorem ww_768 : (Jvm.Cond.instanceMethod ({ cls := "PakeDeskModel", name := "forget", desc := "(I)Z" } : Jvm.MethodName)) ∈ gt_tbl := gt_m (List.mem_append_right _ (List.mem_append_right _ (List.mem_append_right _ (List.mem_append_right _ (List.mem_of_getElem? (i := 48) (by decide +kernel)))))) (by decide)
theorem ww_769 : (Jvm.Cond.selects "PakeDeskModel" ({ cls := "PakeDeskModel", name := "forget", desc := "(I)Z" } : Jvm.MethodName) ({ cls := "PakeDeskModel", name := "forget", desc := "(I)Z" } : Jvm.MethodName)) ∈ gt_tbl := gt_m (List.mem_append_right _ (List.mem_append_right _ (List.mem_append_right _ (List.mem_append_right _ (List.mem_of_getElem? (i := 49) (by decide +kernel)))))) (by decide)
theorem ww_770 : (Jvm.Cond.code ({ cls := "PakeDeskModel", name := "forget", desc := "(I)Z" } : Jvm.MethodName) prog_9_method_14_code (2 : Nat) (Option.some Jvm.ClassFile.FieldType.boolean)) ∈ gt_tbl := gt_m (List.mem_append_right _ (List.mem_append_right _ (List.mem_append_right _ (List.mem_append_right _ (List.mem_of_getElem? (i := 50) (by decide +kernel)))))) (by decide)
theorem ww_771 : (Jvm.Cond.methodLink "PakeDeskLaw" (67 : Nat) ({ cls := "PakeDeskModel", name := "way", desc := "(I)I" } : Jvm.MethodName)) ∈ gt_tbl := gt_m (List.mem_append_right _ (List.mem_append_right _ (List.mem_append_right _ (List.mem_append_right _ (List.mem_of_getElem? (i := 51) (by decide +kernel)))))) (by decide)
theorem ww_772 : (Jvm.Cond.instanceMethod ({ cls := "PakeDeskModel", name := "way", desc := "(I)I" } : Jvm.MethodName)) ∈ gt_tbl := gt_m (List.mem_append_right _ (List.mem_append_right _ (List.mem_append_right _ (List.mem_append_right _ (List.mem_of_getElem? (i := 52) (by decide +kernel)))))) (by decide)
theorem ww_773 : (Jvm.Cond.selects "PakeDeskModel" ({ cls := "PakeDeskModel", name := "way", desc := "(I)I" } : Jvm.MethodName) ({ cls := "PakeDeskModel", name := "way", desc := "(I)I" } : Jvm.MethodName)) ∈ gt_tbl := gt_m (List.mem_append_right _ (List.mem_append_right _ (List.mem_append_right _ (List.mem_append_right _ (List.mem_of_getElem? (i := 53) (by decide +kernel)))))) (by decide)
theorem ww_774 : (Jvm.Cond.code ({ cls := "PakeDeskModel", name := "way", desc := "(I)I" } : Jvm.MethodName) prog_9_method_15_code (2 : Nat) (Option.some Jvm.ClassFile.FieldType.int)) ∈ gt_tbl := gt_m (List.mem_append_right _ (List.mem_append_right _ (List.mem_append_right _ (List.mem_append_right _ (List.mem_of_getElem? (i := 54) (by decide +kernel)))))) (by decide)
theorem ww_775 : (Jvm.Cond.methodLink "PakeDeskLaw" (71 : Nat) ({ cls := "PakeDeskModel", name := "salt", desc := "(I)J" } : Jvm.MethodName)) ∈ gt_tbl := gt_m (List.mem_append_right _ (List.mem_append_right _ (List.mem_append_right _ (List.mem_append_right _ (List.mem_of_getElem? (i := 55) (by decide +kernel)))))) (by decide)
theorem ww_776 : (Jvm.Cond.instanceMethod ({ cls := "PakeDeskModel", name := "salt", desc := "(I)J" } : Jvm.MethodName)) ∈ gt_tbl := gt_m (List.mem_append_right _ (List.mem_append_right _ (List.mem_append_right _ (List.mem_append_right _ (List.mem_of_getElem? (i := 56) (by decide +kernel)))))) (by decide)
theorem ww_777 : (Jvm.Cond.selects "PakeDeskModel" ({ cls := "PakeDeskModel", name := "salt", desc := "(I)J" } : Jvm.MethodName) ({ cls := "PakeDeskModel", name := "salt", desc := "(I)J" } : Jvm.MethodName)) ∈ gt_tbl := gt_m (List.mem_append_right _ (List.mem_append_right _ (List.mem_append_right _ (List.mem_append_right _ (List.mem_of_getElem? (i := 57) (by decide +kernel)))))) (by decide)
theorem ww_778 : (Jvm.Cond.code ({ cls := "PakeDeskModel", name := "salt", desc := "(I)J" } : Jvm.MethodName) prog_9_method_17_code (2 : Nat) (Option.some Jvm.ClassFile.FieldType.long)) ∈ gt_tbl := gt_m (List.mem_append_right _ (List.mem_append_right _ (List.mem_append_right _ (List.mem_append_right _ (List.mem_of_getElem? (i := 58) (by decide +kernel)))))) (by decide)
theorem ww_860 : (Jvm.Cond.methodLink "PakeDeskLaw" (94 : Nat) ({ cls := "PakeDeskModel", name := "message", desc := "(I)J" } : Jvm.MethodName)) ∈ gt_tbl := gt_m (List.mem_append_right _ (List.mem_append_right _ (List.mem_append_right _ (List.mem_append_right _ (List.mem_of_getElem? (i := 140) (by decide +kernel)))))) (by decide)
theorem ww_861 : (Jvm.Cond.instanceMethod ({ cls := "PakeDeskModel", name := "message", desc := "(I)J" } : Jvm.MethodName)) ∈ gt_tbl := gt_m (List.mem_append_right _ (List.mem_append_right _ (List.mem_append_right _ (List.mem_append_right _ (List.mem_of_getElem? (i := 141) (by decide +kernel)))))) (by decide)
theorem ww_862 : (Jvm.Cond.selects "PakeDeskModel" ({ cls := "PakeDeskModel", name := "message", desc := "(I)J" } : Jvm.MethodName) ({ cls := "PakeDeskModel", name := "message", desc := "(I)J" } : Jvm.MethodName)) ∈ gt_tbl := gt_m (List.mem_append_right _ (List.mem_append_right _ (List.mem_append_right _ (List.mem_append_right _ (List.mem_of_getElem? (i := 142) (by decide +kernel)))))) (by decide)
theorem ww_863 : (Jvm.Cond.code ({ cls := "PakeDeskModel", name := "message", desc := "(I)J" } : Jvm.MethodName) prog_9_method_34_code (2 : Nat) (Option.some Jvm.ClassFile.FieldType.long)) ∈ gt_tbl := gt_m (List.mem_append_right _ (List.mem_append_right _ (List.mem_append_right _ (List.mem_append_right _ (List.mem_of_getElem? (i := 143) (by decide +kernel)))))) (by decide)
theorem ww_868 : (Jvm.Cond.methodLink "PakeDeskLaw" (102 : Nat) ({ cls := "PakeDeskModel", name := "state", desc := "(I)I" } : Jvm.MethodName)) ∈ gt_tbl := gt_m (List.mem_append_right _ (List.mem_append_right _ (List.mem_append_right _ (List.mem_append_right _ (List.mem_of_getElem? (i := 148) (by decide +kernel)))))) (by decide)
theorem ww_869 : (Jvm.Cond.instanceMethod ({ cls := "PakeDeskModel", name := "state", desc := "(I)I" } : Jvm.MethodName)) ∈ gt_tbl := gt_m (List.mem_append_right _ (List.mem_append_right _ (List.mem_append_right _ (List.mem_append_right _ (List.mem_of_getElem? (i := 149) (by decide +kernel)))))) (by decide)
theorem ww_870 : (Jvm.Cond.selects "PakeDeskModel" ({ cls := "PakeDeskModel", name := "state", desc := "(I)I" } : Jvm.MethodName) ({ cls := "PakeDeskModel", name := "state", desc := "(I)I" } : Jvm.MethodName)) ∈ gt_tbl := gt_m (List.mem_append_right _ (List.mem_append_right _ (List.mem_append_right _ (List.mem_append_right _ (List.mem_of_getElem? (i := 150) (by decide +kernel)))))) (by decide)
theorem ww_871 : (Jvm.Cond.code ({ cls := "PakeDeskModel", name := "state", desc := "(I)I" } : Jvm.MethodName) prog_9_method_36_code (2 : Nat) (Option.some Jvm.ClassFile.FieldType.int)) ∈ gt_tbl := gt_m (List.mem_append_right _ (List.mem_append_right _ (List.mem_append_right _ (List.mem_append_right _ (List.mem_of_getElem? (i := 151) (by decide +kernel)))))) (by decide)
theorem ww_872 : (Jvm.Cond.methodLink "PakeDeskLaw" (106 : Nat) ({ cls := "PakeDeskModel", name := "blocked", desc := "(I)Z" } : Jvm.MethodName)) ∈ gt_tbl := gt_m (List.mem_append_right _ (List.mem_append_right _ (List.mem_append_right _ (List.mem_append_right _ (List.mem_of_getElem? (i := 152) (by decide +kernel)))))) (by decide)
theorem ww_873 : (Jvm.Cond.instanceMethod ({ cls := "PakeDeskModel", name := "blocked", desc := "(I)Z" } : Jvm.MethodName)) ∈ gt_tbl := gt_m (List.mem_append_right _ (List.mem_append_right _ (List.mem_append_right _ (List.mem_append_right _ (List.mem_of_getElem? (i := 153) (by decide +kernel)))))) (by decide)
theorem ww_874 : (Jvm.Cond.selects "PakeDeskModel" ({ cls := "PakeDeskModel", name := "blocked", desc := "(I)Z" } : Jvm.MethodName) ({ cls := "PakeDeskModel", name := "blocked", desc := "(I)Z" } : Jvm.MethodName)) ∈ gt_tbl := gt_m (List.mem_append_right _ (List.mem_append_right _ (List.mem_append_right _ (List.mem_append_right _ (List.mem_of_getElem? (i := 154) (by decide +kernel)))))) (by decide)
theorem ww_875 : (Jvm.Cond.code ({ cls := "PakeDeskModel", name := "blocked", desc := "(I)Z" } : Jvm.MethodName) prog_9_method_37_code (2 : Nat) (Option.some Jvm.ClassFile.FieldType.boolean)) ∈ gt_tbl := gt_m (List.mem_append_right _ (List.mem_append_right _ (List.mem_append_right _ (List.mem_append_right _ (List.mem_of_getElem? (i := 155) (by decide +kernel)))))) (by decide)
theorem ww_880 : (Jvm.Cond.methodLink "PakeDeskLaw" (113 : Nat) ({ cls := "PakeDeskModel", name := "sessions", desc := "()I" } : Jvm.MethodName)) ∈ gt_tbl := gt_m (List.mem_append_right _ (List.mem_append_right _ (List.mem_append_right _ (List.mem_append_right _ (List.mem_of_getElem? (i := 160) (by decide +kernel)))))) (by decide)
theorem ww_881 : (Jvm.Cond.instanceMethod ({ cls := "PakeDeskModel", name := "sessions", desc := "()I" } : Jvm.MethodName)) ∈ gt_tbl := gt_m (List.mem_append_right _ (List.mem_append_right _ (List.mem_append_right _ (List.mem_append_right _ (List.mem_of_getElem? (i := 161) (by decide +kernel)))))) (by decide)
theorem ww_882 : (Jvm.Cond.selects "PakeDeskModel" ({ cls := "PakeDeskModel", name := "sessions", desc := "()I" } : Jvm.MethodName) ({ cls := "PakeDeskModel", name := "sessions", desc := "()I" } : Jvm.MethodName)) ∈ gt_tbl := gt_m (List.mem_append_right _ (List.mem_append_right _ (List.mem_append_right _ (List.mem_append_right _ (List.mem_of_getElem? (i := 162) (by decide +kernel)))))) (by decide)
theorem ww_883 : (Jvm.Cond.code ({ cls := "PakeDeskModel", name := "sessions", desc := "()I" } : Jvm.MethodName) prog_9_method_39_code (1 : Nat) (Option.some Jvm.ClassFile.FieldType.int)) ∈ gt_tbl := gt_m (List.mem_append_right _ (List.mem_append_right _ (List.mem_append_right _ (List.mem_append_right _ (List.mem_of_getElem? (i := 163) (by decide +kernel)))))) (by decide)
theorem ww_884 : (Jvm.Cond.constantLong "PakeDeskLaw" (52 : Nat) (4294967295 : Int64)) ∈ gt_tbl := gt_m (List.mem_append_right _ (List.mem_append_right _ (List.mem_append_right _ (List.mem_append_right _ (List.mem_of_getElem? (i := 164) (by decide +kernel)))))) (by decide)
theorem cy_D_register : tb_C my_D_register mb_D_register 8 (some .boolean) 4 := ⟨ww_84, ww_1, by decide, by decide, by decide +kernel⟩
theorem cy_M_register : tb_C my_M_register mb_M_register 7 (some .boolean) 4 := ⟨ww_726, ww_3, by decide, by decide, by decide +kernel⟩
theorem cy_D_forget : tb_C my_D_forget mb_D_forget 3 (some .boolean) 1 := ⟨ww_133, ww_1, by decide, by decide, by decide +kernel⟩
theorem cy_M_forget : tb_C my_M_forget mb_M_forget 2 (some .boolean) 1 := ⟨ww_770, ww_3, by decide, by decide, by decide +kernel⟩
theorem cy_D_way : tb_C my_D_way mb_D_way 3 (some .int) 1 := ⟨ww_137, ww_1, by decide, by decide, by decide +kernel⟩
theorem cy_M_way : tb_C my_M_way mb_M_way 2 (some .int) 1 := ⟨ww_774, ww_3, by decide, by decide, by decide +kernel⟩
theorem cy_D_salt : tb_C my_D_salt mb_D_salt 3 (some .long) 1 := ⟨ww_141, ww_1, by decide, by decide, by decide +kernel⟩
theorem cy_M_salt : tb_C my_M_salt mb_M_salt 2 (some .long) 1 := ⟨ww_778, ww_3, by decide, by decide, by decide +kernel⟩
theorem cy_D_blocked : tb_C my_D_blocked mb_D_blocked 3 (some .boolean) 1 := ⟨ww_171, ww_1, by decide, by decide, by decide +kernel⟩
theorem cy_M_blocked : tb_C my_M_blocked mb_M_blocked 2 (some .boolean) 1 := ⟨ww_875, ww_3, by decide, by decide, by decide +kernel⟩
theorem cy_D_sessions : tb_C my_D_sessions mb_D_sessions 1 (some .int) 0 := ⟨ww_179, ww_1, by decide, by decide, by decide +kernel⟩
theorem cy_M_sessions : tb_C my_M_sessions mb_M_sessions 1 (some .int) 0 := ⟨ww_883, ww_3, by decide, by decide, by decide +kernel⟩
theorem cy_D_message : tb_C my_D_message mb_D_message 2 (some .long) 1 := ⟨ww_149, ww_1, by decide, by decide, by decide +kernel⟩
theorem cy_M_message : tb_C my_M_message mb_M_message 2 (some .long) 1 := ⟨ww_863, ww_3, by decide, by decide, by decide +kernel⟩
theorem cy_D_state : tb_C my_D_state mb_D_state 3 (some .int) 1 := ⟨ww_161, ww_1, by decide, by decide, by decide +kernel⟩
theorem cy_M_state : tb_C my_M_state mb_M_state 2 (some .int) 1 := ⟨ww_871, ww_3, by decide, by decide, by decide +kernel⟩
section LQ
variable {p : Program} {l : Launch} {e : Env} {s : State} {m : MethodId} {below : List Frame} {meth : Method} {c : Code} {b : Nat} {L : Nat} {xs : Nat → Int32} {G : va_G} {ct : Nat → ClassId} {A : Nat → Prop} {hd : Nat} {us : Nat} {op : Nat} {hm : Nat} {qo : Nat} {qa : Nat → Nat} {fu : Nat → Option Nat} {au : Nat → Nat} {ns : Int32} {iv cells slots : Nat} {Q : State → Prop} {H : Heap} {locs : List Loc} {ls : Array Slot} {n : Nat} {ck : Int32} {th : Int32} {hh : Int64} {a1 : Nat → Int32} {a2 : Nat → Int64} {a3 : Nat → Int64} {a4 : Nat → Int64} {a5 : Nat → Int32} {a6 : Nat → Int32} {a7 : Nat → Int32} {a8 : Nat → Int32} {a9 : Nat → Int32} {b0 : Nat → Int32} {b1 : Nat → Int32} {b2 : Nat → Int32} {b3 : Nat → Int32} {b4 : Nat → Int64} {b5 : Nat → Int64} {b6 : Nat → Int64} {b7 : Nat → Int64} {b8 : Nat → Int64} {b9 : Nat → Int64} {b10 : Nat → Int64} {og : Nat → Int64} {fo : Nat → Option Nat} {ad : Nat → Nat} {eu : Nat → va_E} {es : Nat → va_E}
set_option maxHeartbeats 4000000 in
set_option maxRecDepth 100000 in
theorem lq_register1 {k : Nat} {uo : Nat} {ul : Int64} {uv : Nat} (C0 : lc_C p l s m meth c b L xs G ct A) (hiv : iv + 7 ≤ L) (hcc : cells + 1 ≤ room_1.cells) (hzz : slots + 13 ≤ room_1.slots)
    (hP : va_P G classes (lw_W ct hd us op hm qo qa fu au ns n ck n ck th hh a1 a2 a3 a4 a5 a6 a7 a8 a9 b0 b1 b2 b3 b4 b5 b6 b7 b8 b9 b10 og fo ad eu es) H) (hD : va_D A (lw_W ct hd us op hm qo qa fu au ns n ck n ck th hh a1 a2 a3 a4 a5 a6 a7 a8 a9 b0 b1 b2 b3 b4 b5 b6 b7 b8 b9 b10 og fo ad eu es)) (hS : va_S A s.heap H locs) (hl : lv_has ls 8 [(4, .int (nI iv)), (3, .ref qo), (2, .ref hm), (1, .ref hd), (0, .ref b)])
    (kk : lc_K p l e s m below meth c b L xs G ct A hd us op hm qo qa fu au ns iv (cells + 1) (slots + 13) Q)
    (hv1 : xs (iv + 1) = nI k) (hk8 : k < 8) (heu : eu k = .inr (1, [.int (nI k), .int ns, .int (a1 k), .long (lN uo), .long ul, .long (lN uv), .int (a5 k), .int (a6 k), .int (a7 k), .int (a8 k)])) (d_hk : k < 8) (d_hfu : fu k = some (au k)) (d_hwi : wy_in (xs (iv + 2))) (m_hk : k < 8) (m_hwi : wy_in (xs (iv + 2)))  (hnew : li_R fu au ns n (upd a1 k (xs (iv + 2))) (vp_updL a2 k (lN (wd_n (nI k) (lj (xs (iv + 3)) (xs (iv + 4)))))) (vp_updL a3 k (lj (xs (iv + 5)) (xs (iv + 6)))) (vp_updL a4 k (lN (pw_m 4 (ex_n (lj (xs (iv + 5)) (xs (iv + 6))) (nI k) (lj (xs (iv + 3)) (xs (iv + 4))))))) a5 a6 a7 a8 a9 b0 b1 b2 b3 b4 b5 b6 b7 b8 b9 b10 fo ad (va_up eu k (.inr (1, [.int (nI k), .int ns, .int ((us_kp (nI k) ((a1 k), uo, ul, uv, (a5 k), (a6 k), (a7 k), (a8 k)) (xs (iv + 2)) (lj (xs (iv + 3)) (xs (iv + 4))) (lj (xs (iv + 5)) (xs (iv + 6)))).1), .long (lN (us_kp (nI k) ((a1 k), uo, ul, uv, (a5 k), (a6 k), (a7 k), (a8 k)) (xs (iv + 2)) (lj (xs (iv + 3)) (xs (iv + 4))) (lj (xs (iv + 5)) (xs (iv + 6)))).2.1), .long ((us_kp (nI k) ((a1 k), uo, ul, uv, (a5 k), (a6 k), (a7 k), (a8 k)) (xs (iv + 2)) (lj (xs (iv + 3)) (xs (iv + 4))) (lj (xs (iv + 5)) (xs (iv + 6)))).2.2.1), .long (lN (us_kp (nI k) ((a1 k), uo, ul, uv, (a5 k), (a6 k), (a7 k), (a8 k)) (xs (iv + 2)) (lj (xs (iv + 3)) (xs (iv + 4))) (lj (xs (iv + 5)) (xs (iv + 6)))).2.2.2.1), .int ((us_kp (nI k) ((a1 k), uo, ul, uv, (a5 k), (a6 k), (a7 k), (a8 k)) (xs (iv + 2)) (lj (xs (iv + 3)) (xs (iv + 4))) (lj (xs (iv + 5)) (xs (iv + 6)))).2.2.2.2.1), .int ((us_kp (nI k) ((a1 k), uo, ul, uv, (a5 k), (a6 k), (a7 k), (a8 k)) (xs (iv + 2)) (lj (xs (iv + 3)) (xs (iv + 4))) (lj (xs (iv + 5)) (xs (iv + 6)))).2.2.2.2.2.1), .int ((us_kp (nI k) ((a1 k), uo, ul, uv, (a5 k), (a6 k), (a7 k), (a8 k)) (xs (iv + 2)) (lj (xs (iv + 3)) (xs (iv + 4))) (lj (xs (iv + 5)) (xs (iv + 6)))).2.2.2.2.2.2.1), .int ((us_kp (nI k) ((a1 k), uo, ul, uv, (a5 k), (a6 k), (a7 k), (a8 k)) (xs (iv + 2)) (lj (xs (iv + 3)) (xs (iv + 4))) (lj (xs (iv + 5)) (xs (iv + 6)))).2.2.2.2.2.2.2)]))) es)  : W p l e room_1 s m #[Value.ref b] below meth c H locs cells slots Q (F0 m 120 ls []) := by
  obtain ⟨hx, hb, hr, hml, hown, hw, hK, hZ, hR, hN, hfl, hA, hbA, hX, hbl, hL, hlocks⟩ := C0
  have hts := hw
  have hP : va_P G classes (lw_W ct hd us op hm qo qa fu au ns n ck n ck th hh a1 a2 a3 a4 a5 a6 a7 a8 a9 b0 b1 b2 b3 b4 b5 b6 b7 b8 b9 b10 og fo ad eu es) H := hP
  have hD : va_D A (lw_W ct hd us op hm qo qa fu au ns n ck n ck th hh a1 a2 a3 a4 a5 a6 a7 a8 a9 b0 b1 b2 b3 b4 b5 b6 b7 b8 b9 b10 og fo ad eu es) := hD
  refine lv_aload_n hx hb d_L_law_120 rfl (lv_at hl 3 rfl) ?_
  refine lv_aload_n hx hb d_L_law_121 rfl (lv_at hl 4 rfl) ?_
  refine lv_iload hx hb d_L_law_122 (lv_at hl 0 rfl) ?_
  refine lv_iconst (v := 1) hx hb d_L_law_124 (by decide) ?_
  refine lv_iadd hx hb d_L_law_125 ?_
  refine sl_ld (j := iv) (d := 1) hx hb hX hbl hbA hS hL (by omega) d_L_law_126 ?_
  refine tp_i (hv1) ?_
  refine lv_aload_n hx hb d_L_law_127 rfl (lv_at hl 4 rfl) ?_
  refine lv_iload hx hb d_L_law_128 (lv_at hl 0 rfl) ?_
  refine lv_iconst (v := 2) hx hb d_L_law_130 (by decide) ?_
  refine lv_iadd hx hb d_L_law_131 ?_
  refine sl_ld (j := iv) (d := 2) hx hb hX hbl hbA hS hL (by omega) d_L_law_132 ?_
  refine lv_aload_n hx hb d_L_law_133 rfl (lv_at hl 4 rfl) ?_
  refine lv_iload hx hb d_L_law_134 (lv_at hl 0 rfl) ?_
  refine lv_iconst (v := 3) hx hb d_L_law_136 (by decide) ?_
  refine lv_iadd hx hb d_L_law_137 ?_
  refine sl_ld (j := iv) (d := 3) hx hb hX hbl hbA hS hL (by omega) d_L_law_138 ?_
  refine lv_i2l (v := (xs (iv + 3)).toInt64) hx hb d_L_law_139 rfl ?_
  refine lv_bipush (v := 32) hx hb d_L_law_140 (by decide) ?_
  refine lv_lshl (v := ((xs (iv + 3)).toInt64) <<< ((32 : Int32).toInt64 &&& 63)) hx hb d_L_law_142 rfl ?_
  refine lv_aload_n hx hb d_L_law_143 rfl (lv_at hl 4 rfl) ?_
  refine lv_iload hx hb d_L_law_144 (lv_at hl 0 rfl) ?_
  refine lv_iconst (v := 4) hx hb d_L_law_146 (by decide) ?_
  refine lv_iadd hx hb d_L_law_147 ?_
  refine sl_ld (j := iv) (d := 4) hx hb hX hbl hbA hS hL (by omega) d_L_law_148 ?_
  refine lv_i2l (v := (xs (iv + 4)).toInt64) hx hb d_L_law_149 rfl ?_
  refine lv_ldc2 (v := 4294967295) hx hb hown (hw _ ww_884) d_L_law_150 ?_
  refine lv_land hx hb d_L_law_153 ?_
  refine lv_lor hx hb d_L_law_154 ?_
  refine tp_l (rfl) ?_
  refine lv_aload_n hx hb d_L_law_155 rfl (lv_at hl 4 rfl) ?_
  refine lv_iload hx hb d_L_law_156 (lv_at hl 0 rfl) ?_
  refine lv_iconst (v := 5) hx hb d_L_law_158 (by decide) ?_
  refine lv_iadd hx hb d_L_law_159 ?_
  refine sl_ld (j := iv) (d := 5) hx hb hX hbl hbA hS hL (by omega) d_L_law_160 ?_
  refine lv_i2l (v := (xs (iv + 5)).toInt64) hx hb d_L_law_161 rfl ?_
  refine lv_bipush (v := 32) hx hb d_L_law_162 (by decide) ?_
  refine lv_lshl (v := ((xs (iv + 5)).toInt64) <<< ((32 : Int32).toInt64 &&& 63)) hx hb d_L_law_164 rfl ?_
  refine lv_aload_n hx hb d_L_law_165 rfl (lv_at hl 4 rfl) ?_
  refine lv_iload hx hb d_L_law_166 (lv_at hl 0 rfl) ?_
  refine lv_bipush (v := 6) hx hb d_L_law_168 (by decide) ?_
  refine lv_iadd hx hb d_L_law_170 ?_
  refine sl_ld (j := iv) (d := 6) hx hb hX hbl hbA hS hL (by omega) d_L_law_171 ?_
  refine lv_i2l (v := (xs (iv + 6)).toInt64) hx hb d_L_law_172 rfl ?_
  refine lv_ldc2 (v := 4294967295) hx hb hown (hw _ ww_884) d_L_law_173 ?_
  refine lv_land hx hb d_L_law_176 ?_
  refine lv_lor hx hb d_L_law_177 ?_
  refine tp_l (rfl) ?_
  have hC9 : List.map (fun i => ((lw_W ct hd us op hm qo qa fu au ns n ck n ck th hh a1 a2 a3 a4 a5 a6 a7 a8 a9 b0 b1 b2 b3 b4 b5 b6 b7 b8 b9 b10 og fo ad eu es) : va_W)[i]?) [22, 23, 25 + k] = List.map some ([(hd, .inr (0, [.ref us, .ref op, .int (nI n), .int ck])), (us, .inl ((ct 3), 8, .inr (.inr (.inr (.inr fu))))), ((au k), .inr (1, [.int (nI k), .int ns, .int (a1 k), .long (lN uo), .long ul, .long (lN uv), .int (a5 k), .int (a6 k), .int (a7 k), .int (a8 k)]))] : va_W) := (wc_c rfl (wc_c rfl (wc_c (lw_u rfl hk8 heu) rfl)))
  have hn9 : va_nd [22, 23, 25 + k] = true := (nd_c (by simp only [List.mem_cons, List.not_mem_nil, or_false]; omega) (nd_c (by simp only [List.mem_cons, List.not_mem_nil, or_false]; omega) (nd_c List.not_mem_nil rfl)))
  have hPc : va_P G classes [(hd, .inr (0, [.ref us, .ref op, .int (nI n), .int ck])), (us, .inl ((ct 3), 8, .inr (.inr (.inr (.inr fu))))), ((au k), .inr (1, [.int (nI k), .int ns, .int (a1 k), .long (lN uo), .long ul, .long (lN uv), .int (a5 k), .int (a6 k), .int (a7 k), .int (a8 k)]))] H := lp_sub hP [22, 23, 25 + k] hC9
  have hDc := hD.sub (ws' := [(hd, .inr (0, [.ref us, .ref op, .int (nI n), .int ck])), (us, .inl ((ct 3), 8, .inr (.inr (.inr (.inr fu))))), ((au k), .inr (1, [.int (nI k), .int ns, .int (a1 k), .long (lN uo), .long ul, .long (lN uv), .int (a5 k), .int (a6 k), .int (a7 k), .int (a8 k)]))]) [22, 23, 25 + k] hn9 hC9
  have hW9 : wk_sets ((lw_W ct hd us op hm qo qa fu au ns n ck n ck th hh a1 a2 a3 a4 a5 a6 a7 a8 a9 b0 b1 b2 b3 b4 b5 b6 b7 b8 b9 b10 og fo ad eu es) : va_W) [22, 23, 25 + k] ([(hd, .inr (0, [.ref us, .ref op, .int (nI n), .int ck])), (us, .inl ((ct 3), 8, .inr (.inr (.inr (.inr fu))))), ((au k), .inr (1, [.int (nI k), .int ns, .int ((us_kp (nI k) ((a1 k), uo, ul, uv, (a5 k), (a6 k), (a7 k), (a8 k)) (xs (iv + 2)) (lj (xs (iv + 3)) (xs (iv + 4))) (lj (xs (iv + 5)) (xs (iv + 6)))).1), .long (lN (us_kp (nI k) ((a1 k), uo, ul, uv, (a5 k), (a6 k), (a7 k), (a8 k)) (xs (iv + 2)) (lj (xs (iv + 3)) (xs (iv + 4))) (lj (xs (iv + 5)) (xs (iv + 6)))).2.1), .long ((us_kp (nI k) ((a1 k), uo, ul, uv, (a5 k), (a6 k), (a7 k), (a8 k)) (xs (iv + 2)) (lj (xs (iv + 3)) (xs (iv + 4))) (lj (xs (iv + 5)) (xs (iv + 6)))).2.2.1), .long (lN (us_kp (nI k) ((a1 k), uo, ul, uv, (a5 k), (a6 k), (a7 k), (a8 k)) (xs (iv + 2)) (lj (xs (iv + 3)) (xs (iv + 4))) (lj (xs (iv + 5)) (xs (iv + 6)))).2.2.2.1), .int ((us_kp (nI k) ((a1 k), uo, ul, uv, (a5 k), (a6 k), (a7 k), (a8 k)) (xs (iv + 2)) (lj (xs (iv + 3)) (xs (iv + 4))) (lj (xs (iv + 5)) (xs (iv + 6)))).2.2.2.2.1), .int ((us_kp (nI k) ((a1 k), uo, ul, uv, (a5 k), (a6 k), (a7 k), (a8 k)) (xs (iv + 2)) (lj (xs (iv + 3)) (xs (iv + 4))) (lj (xs (iv + 5)) (xs (iv + 6)))).2.2.2.2.2.1), .int ((us_kp (nI k) ((a1 k), uo, ul, uv, (a5 k), (a6 k), (a7 k), (a8 k)) (xs (iv + 2)) (lj (xs (iv + 3)) (xs (iv + 4))) (lj (xs (iv + 5)) (xs (iv + 6)))).2.2.2.2.2.2.1), .int ((us_kp (nI k) ((a1 k), uo, ul, uv, (a5 k), (a6 k), (a7 k), (a8 k)) (xs (iv + 2)) (lj (xs (iv + 3)) (xs (iv + 4))) (lj (xs (iv + 5)) (xs (iv + 6)))).2.2.2.2.2.2.2)]))] : va_W) = ((lw_W ct hd us op hm qo qa fu au ns n ck n ck th hh a1 a2 a3 a4 a5 a6 a7 a8 a9 b0 b1 b2 b3 b4 b5 b6 b7 b8 b9 b10 og fo ad (va_up eu k (.inr (1, [.int (nI k), .int ns, .int ((us_kp (nI k) ((a1 k), uo, ul, uv, (a5 k), (a6 k), (a7 k), (a8 k)) (xs (iv + 2)) (lj (xs (iv + 3)) (xs (iv + 4))) (lj (xs (iv + 5)) (xs (iv + 6)))).1), .long (lN (us_kp (nI k) ((a1 k), uo, ul, uv, (a5 k), (a6 k), (a7 k), (a8 k)) (xs (iv + 2)) (lj (xs (iv + 3)) (xs (iv + 4))) (lj (xs (iv + 5)) (xs (iv + 6)))).2.1), .long ((us_kp (nI k) ((a1 k), uo, ul, uv, (a5 k), (a6 k), (a7 k), (a8 k)) (xs (iv + 2)) (lj (xs (iv + 3)) (xs (iv + 4))) (lj (xs (iv + 5)) (xs (iv + 6)))).2.2.1), .long (lN (us_kp (nI k) ((a1 k), uo, ul, uv, (a5 k), (a6 k), (a7 k), (a8 k)) (xs (iv + 2)) (lj (xs (iv + 3)) (xs (iv + 4))) (lj (xs (iv + 5)) (xs (iv + 6)))).2.2.2.1), .int ((us_kp (nI k) ((a1 k), uo, ul, uv, (a5 k), (a6 k), (a7 k), (a8 k)) (xs (iv + 2)) (lj (xs (iv + 3)) (xs (iv + 4))) (lj (xs (iv + 5)) (xs (iv + 6)))).2.2.2.2.1), .int ((us_kp (nI k) ((a1 k), uo, ul, uv, (a5 k), (a6 k), (a7 k), (a8 k)) (xs (iv + 2)) (lj (xs (iv + 3)) (xs (iv + 4))) (lj (xs (iv + 5)) (xs (iv + 6)))).2.2.2.2.2.1), .int ((us_kp (nI k) ((a1 k), uo, ul, uv, (a5 k), (a6 k), (a7 k), (a8 k)) (xs (iv + 2)) (lj (xs (iv + 3)) (xs (iv + 4))) (lj (xs (iv + 5)) (xs (iv + 6)))).2.2.2.2.2.2.1), .int ((us_kp (nI k) ((a1 k), uo, ul, uv, (a5 k), (a6 k), (a7 k), (a8 k)) (xs (iv + 2)) (lj (xs (iv + 3)) (xs (iv + 4))) (lj (xs (iv + 5)) (xs (iv + 6)))).2.2.2.2.2.2.2)]))) es) : va_W) := (ws_k rfl (ws_k rfl (ws_c (lw_su rfl hk8) rfl)))
  refine wk_i (va_runV (As := [.int (nI k), .int (xs (iv + 2)), .long (lj (xs (iv + 3)) (xs (iv + 4))), .long (lj (xs (iv + 5)) (xs (iv + 6)))]) (rest := []) ⟨hx, hb, hml, hown, hts⟩ (c_D_register1 l G ct H.size hd us op n ck fu (au k) k (nI k) ns (a1 k) uo ul uv (a5 k) (a6 k) (a7 k) (a8 k) (xs (iv + 2)) (lj (xs (iv + 3)) (xs (iv + 4))) (lj (xs (iv + 5)) (xs (iv + 6))) d_hk d_hfu d_hwi) (tb_V hw cy_D_register ww_81 ww_82 ww_83 rfl rfl ⟨Nat.le_of_ble_eq_true rfl, Nat.le_of_ble_eq_true rfl⟩) (wk_preV (ci := 0) (q0 := 0) hPc hK hDc rfl rfl) rfl rfl hl.1 rfl (lv_room (Nat.le_of_ble_eq_true rfl)) d_L_law_178 ⟨by omega, by omega⟩) hP hD hS hA [22, 23, 25 + k] hn9 hC9 (fun _ => by simp only [List.map_cons, List.map_nil]) (fun _ H locs _ hP hD hS => ?_)
  have hP : va_P G classes (lw_W ct hd us op hm qo qa fu au ns n ck n ck th hh a1 a2 a3 a4 a5 a6 a7 a8 a9 b0 b1 b2 b3 b4 b5 b6 b7 b8 b9 b10 og fo ad (va_up eu k (.inr (1, [.int (nI k), .int ns, .int ((us_kp (nI k) ((a1 k), uo, ul, uv, (a5 k), (a6 k), (a7 k), (a8 k)) (xs (iv + 2)) (lj (xs (iv + 3)) (xs (iv + 4))) (lj (xs (iv + 5)) (xs (iv + 6)))).1), .long (lN (us_kp (nI k) ((a1 k), uo, ul, uv, (a5 k), (a6 k), (a7 k), (a8 k)) (xs (iv + 2)) (lj (xs (iv + 3)) (xs (iv + 4))) (lj (xs (iv + 5)) (xs (iv + 6)))).2.1), .long ((us_kp (nI k) ((a1 k), uo, ul, uv, (a5 k), (a6 k), (a7 k), (a8 k)) (xs (iv + 2)) (lj (xs (iv + 3)) (xs (iv + 4))) (lj (xs (iv + 5)) (xs (iv + 6)))).2.2.1), .long (lN (us_kp (nI k) ((a1 k), uo, ul, uv, (a5 k), (a6 k), (a7 k), (a8 k)) (xs (iv + 2)) (lj (xs (iv + 3)) (xs (iv + 4))) (lj (xs (iv + 5)) (xs (iv + 6)))).2.2.2.1), .int ((us_kp (nI k) ((a1 k), uo, ul, uv, (a5 k), (a6 k), (a7 k), (a8 k)) (xs (iv + 2)) (lj (xs (iv + 3)) (xs (iv + 4))) (lj (xs (iv + 5)) (xs (iv + 6)))).2.2.2.2.1), .int ((us_kp (nI k) ((a1 k), uo, ul, uv, (a5 k), (a6 k), (a7 k), (a8 k)) (xs (iv + 2)) (lj (xs (iv + 3)) (xs (iv + 4))) (lj (xs (iv + 5)) (xs (iv + 6)))).2.2.2.2.2.1), .int ((us_kp (nI k) ((a1 k), uo, ul, uv, (a5 k), (a6 k), (a7 k), (a8 k)) (xs (iv + 2)) (lj (xs (iv + 3)) (xs (iv + 4))) (lj (xs (iv + 5)) (xs (iv + 6)))).2.2.2.2.2.2.1), .int ((us_kp (nI k) ((a1 k), uo, ul, uv, (a5 k), (a6 k), (a7 k), (a8 k)) (xs (iv + 2)) (lj (xs (iv + 3)) (xs (iv + 4))) (lj (xs (iv + 5)) (xs (iv + 6)))).2.2.2.2.2.2.2)]))) es) H := lp_P hW9 hP
  have hD : va_D A (lw_W ct hd us op hm qo qa fu au ns n ck n ck th hh a1 a2 a3 a4 a5 a6 a7 a8 a9 b0 b1 b2 b3 b4 b5 b6 b7 b8 b9 b10 og fo ad (va_up eu k (.inr (1, [.int (nI k), .int ns, .int ((us_kp (nI k) ((a1 k), uo, ul, uv, (a5 k), (a6 k), (a7 k), (a8 k)) (xs (iv + 2)) (lj (xs (iv + 3)) (xs (iv + 4))) (lj (xs (iv + 5)) (xs (iv + 6)))).1), .long (lN (us_kp (nI k) ((a1 k), uo, ul, uv, (a5 k), (a6 k), (a7 k), (a8 k)) (xs (iv + 2)) (lj (xs (iv + 3)) (xs (iv + 4))) (lj (xs (iv + 5)) (xs (iv + 6)))).2.1), .long ((us_kp (nI k) ((a1 k), uo, ul, uv, (a5 k), (a6 k), (a7 k), (a8 k)) (xs (iv + 2)) (lj (xs (iv + 3)) (xs (iv + 4))) (lj (xs (iv + 5)) (xs (iv + 6)))).2.2.1), .long (lN (us_kp (nI k) ((a1 k), uo, ul, uv, (a5 k), (a6 k), (a7 k), (a8 k)) (xs (iv + 2)) (lj (xs (iv + 3)) (xs (iv + 4))) (lj (xs (iv + 5)) (xs (iv + 6)))).2.2.2.1), .int ((us_kp (nI k) ((a1 k), uo, ul, uv, (a5 k), (a6 k), (a7 k), (a8 k)) (xs (iv + 2)) (lj (xs (iv + 3)) (xs (iv + 4))) (lj (xs (iv + 5)) (xs (iv + 6)))).2.2.2.2.1), .int ((us_kp (nI k) ((a1 k), uo, ul, uv, (a5 k), (a6 k), (a7 k), (a8 k)) (xs (iv + 2)) (lj (xs (iv + 3)) (xs (iv + 4))) (lj (xs (iv + 5)) (xs (iv + 6)))).2.2.2.2.2.1), .int ((us_kp (nI k) ((a1 k), uo, ul, uv, (a5 k), (a6 k), (a7 k), (a8 k)) (xs (iv + 2)) (lj (xs (iv + 3)) (xs (iv + 4))) (lj (xs (iv + 5)) (xs (iv + 6)))).2.2.2.2.2.2.1), .int ((us_kp (nI k) ((a1 k), uo, ul, uv, (a5 k), (a6 k), (a7 k), (a8 k)) (xs (iv + 2)) (lj (xs (iv + 3)) (xs (iv + 4))) (lj (xs (iv + 5)) (xs (iv + 6)))).2.2.2.2.2.2.2)]))) es) := lp_D hW9 hD
  refine lv_aload_n hx hb d_L_law_181 rfl (lv_at hl 2 rfl) ?_
  refine lv_aload_n hx hb d_L_law_182 rfl (lv_at hl 4 rfl) ?_
  refine lv_iload hx hb d_L_law_183 (lv_at hl 0 rfl) ?_
  refine lv_iconst (v := 1) hx hb d_L_law_185 (by decide) ?_
  refine lv_iadd hx hb d_L_law_186 ?_
  refine sl_ld (j := iv) (d := 1) hx hb hX hbl hbA hS hL (by omega) d_L_law_187 ?_
  refine tp_i (hv1) ?_
  refine lv_aload_n hx hb d_L_law_188 rfl (lv_at hl 4 rfl) ?_
  refine lv_iload hx hb d_L_law_189 (lv_at hl 0 rfl) ?_
  refine lv_iconst (v := 2) hx hb d_L_law_191 (by decide) ?_
  refine lv_iadd hx hb d_L_law_192 ?_
  refine sl_ld (j := iv) (d := 2) hx hb hX hbl hbA hS hL (by omega) d_L_law_193 ?_
  refine lv_aload_n hx hb d_L_law_194 rfl (lv_at hl 4 rfl) ?_
  refine lv_iload hx hb d_L_law_195 (lv_at hl 0 rfl) ?_
  refine lv_iconst (v := 3) hx hb d_L_law_197 (by decide) ?_
  refine lv_iadd hx hb d_L_law_198 ?_
  refine sl_ld (j := iv) (d := 3) hx hb hX hbl hbA hS hL (by omega) d_L_law_199 ?_
  refine lv_i2l (v := (xs (iv + 3)).toInt64) hx hb d_L_law_200 rfl ?_
  refine lv_bipush (v := 32) hx hb d_L_law_201 (by decide) ?_
  refine lv_lshl (v := ((xs (iv + 3)).toInt64) <<< ((32 : Int32).toInt64 &&& 63)) hx hb d_L_law_203 rfl ?_
  refine lv_aload_n hx hb d_L_law_204 rfl (lv_at hl 4 rfl) ?_
  refine lv_iload hx hb d_L_law_205 (lv_at hl 0 rfl) ?_
  refine lv_iconst (v := 4) hx hb d_L_law_207 (by decide) ?_
  refine lv_iadd hx hb d_L_law_208 ?_
  refine sl_ld (j := iv) (d := 4) hx hb hX hbl hbA hS hL (by omega) d_L_law_209 ?_
  refine lv_i2l (v := (xs (iv + 4)).toInt64) hx hb d_L_law_210 rfl ?_
  refine lv_ldc2 (v := 4294967295) hx hb hown (hw _ ww_884) d_L_law_211 ?_
  refine lv_land hx hb d_L_law_214 ?_
  refine lv_lor hx hb d_L_law_215 ?_
  refine tp_l (rfl) ?_
  refine lv_aload_n hx hb d_L_law_216 rfl (lv_at hl 4 rfl) ?_
  refine lv_iload hx hb d_L_law_217 (lv_at hl 0 rfl) ?_
  refine lv_iconst (v := 5) hx hb d_L_law_219 (by decide) ?_
  refine lv_iadd hx hb d_L_law_220 ?_
  refine sl_ld (j := iv) (d := 5) hx hb hX hbl hbA hS hL (by omega) d_L_law_221 ?_
  refine lv_i2l (v := (xs (iv + 5)).toInt64) hx hb d_L_law_222 rfl ?_
  refine lv_bipush (v := 32) hx hb d_L_law_223 (by decide) ?_
  refine lv_lshl (v := ((xs (iv + 5)).toInt64) <<< ((32 : Int32).toInt64 &&& 63)) hx hb d_L_law_225 rfl ?_
  refine lv_aload_n hx hb d_L_law_226 rfl (lv_at hl 4 rfl) ?_
  refine lv_iload hx hb d_L_law_227 (lv_at hl 0 rfl) ?_
  refine lv_bipush (v := 6) hx hb d_L_law_229 (by decide) ?_
  refine lv_iadd hx hb d_L_law_231 ?_
  refine sl_ld (j := iv) (d := 6) hx hb hX hbl hbA hS hL (by omega) d_L_law_232 ?_
  refine lv_i2l (v := (xs (iv + 6)).toInt64) hx hb d_L_law_233 rfl ?_
  refine lv_ldc2 (v := 4294967295) hx hb hown (hw _ ww_884) d_L_law_234 ?_
  refine lv_land hx hb d_L_law_237 ?_
  refine lv_lor hx hb d_L_law_238 ?_
  refine tp_l (rfl) ?_
  have hC9 : List.map (fun i => ((lw_W ct hd us op hm qo qa fu au ns n ck n ck th hh a1 a2 a3 a4 a5 a6 a7 a8 a9 b0 b1 b2 b3 b4 b5 b6 b7 b8 b9 b10 og fo ad (va_up eu k (.inr (1, [.int (nI k), .int ns, .int ((us_kp (nI k) ((a1 k), uo, ul, uv, (a5 k), (a6 k), (a7 k), (a8 k)) (xs (iv + 2)) (lj (xs (iv + 3)) (xs (iv + 4))) (lj (xs (iv + 5)) (xs (iv + 6)))).1), .long (lN (us_kp (nI k) ((a1 k), uo, ul, uv, (a5 k), (a6 k), (a7 k), (a8 k)) (xs (iv + 2)) (lj (xs (iv + 3)) (xs (iv + 4))) (lj (xs (iv + 5)) (xs (iv + 6)))).2.1), .long ((us_kp (nI k) ((a1 k), uo, ul, uv, (a5 k), (a6 k), (a7 k), (a8 k)) (xs (iv + 2)) (lj (xs (iv + 3)) (xs (iv + 4))) (lj (xs (iv + 5)) (xs (iv + 6)))).2.2.1), .long (lN (us_kp (nI k) ((a1 k), uo, ul, uv, (a5 k), (a6 k), (a7 k), (a8 k)) (xs (iv + 2)) (lj (xs (iv + 3)) (xs (iv + 4))) (lj (xs (iv + 5)) (xs (iv + 6)))).2.2.2.1), .int ((us_kp (nI k) ((a1 k), uo, ul, uv, (a5 k), (a6 k), (a7 k), (a8 k)) (xs (iv + 2)) (lj (xs (iv + 3)) (xs (iv + 4))) (lj (xs (iv + 5)) (xs (iv + 6)))).2.2.2.2.1), .int ((us_kp (nI k) ((a1 k), uo, ul, uv, (a5 k), (a6 k), (a7 k), (a8 k)) (xs (iv + 2)) (lj (xs (iv + 3)) (xs (iv + 4))) (lj (xs (iv + 5)) (xs (iv + 6)))).2.2.2.2.2.1), .int ((us_kp (nI k) ((a1 k), uo, ul, uv, (a5 k), (a6 k), (a7 k), (a8 k)) (xs (iv + 2)) (lj (xs (iv + 3)) (xs (iv + 4))) (lj (xs (iv + 5)) (xs (iv + 6)))).2.2.2.2.2.2.1), .int ((us_kp (nI k) ((a1 k), uo, ul, uv, (a5 k), (a6 k), (a7 k), (a8 k)) (xs (iv + 2)) (lj (xs (iv + 3)) (xs (iv + 4))) (lj (xs (iv + 5)) (xs (iv + 6)))).2.2.2.2.2.2.2)]))) es) : va_W)[i]?) [0, 1, 2, 3, 4] = List.map some ([(hm, .inr (4, [.int th, .long ns.toInt64, .int ck, .long hh, .ref (qa 1), .ref (qa 2), .ref (qa 3), .ref (qa 4), .ref (qa 5), .ref (qa 6), .ref (qa 7), .ref (qa 8), .int (nI n), .ref (qa 9), .ref (qa 10), .ref (qa 11), .ref (qa 12), .ref (qa 13), .ref (qa 14), .ref (qa 15), .ref (qa 16), .ref (qa 17), .ref (qa 18), .ref (qa 19), .ref (qa 20)])), ((qa 1), .inl ((ct 0), 8, .inl a1)), ((qa 2), .inl ((ct 1), 8, .inr (.inl a2))), ((qa 3), .inl ((ct 1), 8, .inr (.inl a3))), ((qa 4), .inl ((ct 1), 8, .inr (.inl a4)))] : va_W) := (wc_c rfl (wc_c rfl (wc_c rfl (wc_c rfl (wc_c rfl rfl)))))
  have hn9 : va_nd [0, 1, 2, 3, 4] = true := by decide
  have hPc : va_P G classes [(hm, .inr (4, [.int th, .long ns.toInt64, .int ck, .long hh, .ref (qa 1), .ref (qa 2), .ref (qa 3), .ref (qa 4), .ref (qa 5), .ref (qa 6), .ref (qa 7), .ref (qa 8), .int (nI n), .ref (qa 9), .ref (qa 10), .ref (qa 11), .ref (qa 12), .ref (qa 13), .ref (qa 14), .ref (qa 15), .ref (qa 16), .ref (qa 17), .ref (qa 18), .ref (qa 19), .ref (qa 20)])), ((qa 1), .inl ((ct 0), 8, .inl a1)), ((qa 2), .inl ((ct 1), 8, .inr (.inl a2))), ((qa 3), .inl ((ct 1), 8, .inr (.inl a3))), ((qa 4), .inl ((ct 1), 8, .inr (.inl a4)))] H := lp_sub hP [0, 1, 2, 3, 4] hC9
  have hDc := hD.sub (ws' := [(hm, .inr (4, [.int th, .long ns.toInt64, .int ck, .long hh, .ref (qa 1), .ref (qa 2), .ref (qa 3), .ref (qa 4), .ref (qa 5), .ref (qa 6), .ref (qa 7), .ref (qa 8), .int (nI n), .ref (qa 9), .ref (qa 10), .ref (qa 11), .ref (qa 12), .ref (qa 13), .ref (qa 14), .ref (qa 15), .ref (qa 16), .ref (qa 17), .ref (qa 18), .ref (qa 19), .ref (qa 20)])), ((qa 1), .inl ((ct 0), 8, .inl a1)), ((qa 2), .inl ((ct 1), 8, .inr (.inl a2))), ((qa 3), .inl ((ct 1), 8, .inr (.inl a3))), ((qa 4), .inl ((ct 1), 8, .inr (.inl a4)))]) [0, 1, 2, 3, 4] hn9 hC9
  refine wk_i (va_runV (As := [.int (nI k), .int (xs (iv + 2)), .long (lj (xs (iv + 3)) (xs (iv + 4))), .long (lj (xs (iv + 5)) (xs (iv + 6)))]) (rest := [.int 1]) ⟨hx, hb, hml, hown, hts⟩ (c_M_register1 l G ct H.size hm th ns.toInt64 ck hh (qa 1) (qa 2) (qa 3) (qa 4) (qa 5) (qa 6) (qa 7) (qa 8) (qa 9) (qa 10) (qa 11) (qa 12) (qa 13) (qa 14) (qa 15) (qa 16) (qa 17) (qa 18) (qa 19) (qa 20) n a1 a2 a3 a4 k (xs (iv + 2)) (lj (xs (iv + 3)) (xs (iv + 4))) (lj (xs (iv + 5)) (xs (iv + 6))) m_hk m_hwi) (tb_V hw cy_M_register ww_723 ww_724 ww_725 rfl rfl ⟨Nat.le_of_ble_eq_true rfl, Nat.le_of_ble_eq_true rfl⟩) (wk_preV (ci := 4) (q0 := 0) hPc hK hDc rfl rfl) rfl rfl hl.1 rfl (lv_room (Nat.le_of_ble_eq_true rfl)) d_L_law_239 ⟨by omega, by omega⟩) hP hD hS hA [0, 1, 2, 3, 4] hn9 hC9 (fun _ => by simp only [List.map_cons, List.map_nil]) (fun z2996 H locs _ hP hD hS => ?_)
  have hW9 : wk_sets ((lw_W ct hd us op hm qo qa fu au ns n ck n ck th hh a1 a2 a3 a4 a5 a6 a7 a8 a9 b0 b1 b2 b3 b4 b5 b6 b7 b8 b9 b10 og fo ad (va_up eu k (.inr (1, [.int (nI k), .int ns, .int ((us_kp (nI k) ((a1 k), uo, ul, uv, (a5 k), (a6 k), (a7 k), (a8 k)) (xs (iv + 2)) (lj (xs (iv + 3)) (xs (iv + 4))) (lj (xs (iv + 5)) (xs (iv + 6)))).1), .long (lN (us_kp (nI k) ((a1 k), uo, ul, uv, (a5 k), (a6 k), (a7 k), (a8 k)) (xs (iv + 2)) (lj (xs (iv + 3)) (xs (iv + 4))) (lj (xs (iv + 5)) (xs (iv + 6)))).2.1), .long ((us_kp (nI k) ((a1 k), uo, ul, uv, (a5 k), (a6 k), (a7 k), (a8 k)) (xs (iv + 2)) (lj (xs (iv + 3)) (xs (iv + 4))) (lj (xs (iv + 5)) (xs (iv + 6)))).2.2.1), .long (lN (us_kp (nI k) ((a1 k), uo, ul, uv, (a5 k), (a6 k), (a7 k), (a8 k)) (xs (iv + 2)) (lj (xs (iv + 3)) (xs (iv + 4))) (lj (xs (iv + 5)) (xs (iv + 6)))).2.2.2.1), .int ((us_kp (nI k) ((a1 k), uo, ul, uv, (a5 k), (a6 k), (a7 k), (a8 k)) (xs (iv + 2)) (lj (xs (iv + 3)) (xs (iv + 4))) (lj (xs (iv + 5)) (xs (iv + 6)))).2.2.2.2.1), .int ((us_kp (nI k) ((a1 k), uo, ul, uv, (a5 k), (a6 k), (a7 k), (a8 k)) (xs (iv + 2)) (lj (xs (iv + 3)) (xs (iv + 4))) (lj (xs (iv + 5)) (xs (iv + 6)))).2.2.2.2.2.1), .int ((us_kp (nI k) ((a1 k), uo, ul, uv, (a5 k), (a6 k), (a7 k), (a8 k)) (xs (iv + 2)) (lj (xs (iv + 3)) (xs (iv + 4))) (lj (xs (iv + 5)) (xs (iv + 6)))).2.2.2.2.2.2.1), .int ((us_kp (nI k) ((a1 k), uo, ul, uv, (a5 k), (a6 k), (a7 k), (a8 k)) (xs (iv + 2)) (lj (xs (iv + 3)) (xs (iv + 4))) (lj (xs (iv + 5)) (xs (iv + 6)))).2.2.2.2.2.2.2)]))) es) : va_W) [0, 1, 2, 3, 4] ([(hm, .inr (4, [.int 0, .long ns.toInt64, .int ck, .long z2996, .ref (qa 1), .ref (qa 2), .ref (qa 3), .ref (qa 4), .ref (qa 5), .ref (qa 6), .ref (qa 7), .ref (qa 8), .int (nI n), .ref (qa 9), .ref (qa 10), .ref (qa 11), .ref (qa 12), .ref (qa 13), .ref (qa 14), .ref (qa 15), .ref (qa 16), .ref (qa 17), .ref (qa 18), .ref (qa 19), .ref (qa 20)])), ((qa 1), .inl ((ct 0), 8, .inl (upd a1 k (xs (iv + 2))))), ((qa 2), .inl ((ct 1), 8, .inr (.inl (vp_updL a2 k (lN (wd_n (nI k) (lj (xs (iv + 3)) (xs (iv + 4))))))))), ((qa 3), .inl ((ct 1), 8, .inr (.inl (vp_updL a3 k (lj (xs (iv + 5)) (xs (iv + 6))))))), ((qa 4), .inl ((ct 1), 8, .inr (.inl (vp_updL a4 k (lN (pw_m 4 (ex_n (lj (xs (iv + 5)) (xs (iv + 6))) (nI k) (lj (xs (iv + 3)) (xs (iv + 4))))))))))] : va_W) = ((lw_W ct hd us op hm qo qa fu au ns n ck n ck 0 z2996 (upd a1 k (xs (iv + 2))) (vp_updL a2 k (lN (wd_n (nI k) (lj (xs (iv + 3)) (xs (iv + 4)))))) (vp_updL a3 k (lj (xs (iv + 5)) (xs (iv + 6)))) (vp_updL a4 k (lN (pw_m 4 (ex_n (lj (xs (iv + 5)) (xs (iv + 6))) (nI k) (lj (xs (iv + 3)) (xs (iv + 4))))))) a5 a6 a7 a8 a9 b0 b1 b2 b3 b4 b5 b6 b7 b8 b9 b10 og fo ad (va_up eu k (.inr (1, [.int (nI k), .int ns, .int ((us_kp (nI k) ((a1 k), uo, ul, uv, (a5 k), (a6 k), (a7 k), (a8 k)) (xs (iv + 2)) (lj (xs (iv + 3)) (xs (iv + 4))) (lj (xs (iv + 5)) (xs (iv + 6)))).1), .long (lN (us_kp (nI k) ((a1 k), uo, ul, uv, (a5 k), (a6 k), (a7 k), (a8 k)) (xs (iv + 2)) (lj (xs (iv + 3)) (xs (iv + 4))) (lj (xs (iv + 5)) (xs (iv + 6)))).2.1), .long ((us_kp (nI k) ((a1 k), uo, ul, uv, (a5 k), (a6 k), (a7 k), (a8 k)) (xs (iv + 2)) (lj (xs (iv + 3)) (xs (iv + 4))) (lj (xs (iv + 5)) (xs (iv + 6)))).2.2.1), .long (lN (us_kp (nI k) ((a1 k), uo, ul, uv, (a5 k), (a6 k), (a7 k), (a8 k)) (xs (iv + 2)) (lj (xs (iv + 3)) (xs (iv + 4))) (lj (xs (iv + 5)) (xs (iv + 6)))).2.2.2.1), .int ((us_kp (nI k) ((a1 k), uo, ul, uv, (a5 k), (a6 k), (a7 k), (a8 k)) (xs (iv + 2)) (lj (xs (iv + 3)) (xs (iv + 4))) (lj (xs (iv + 5)) (xs (iv + 6)))).2.2.2.2.1), .int ((us_kp (nI k) ((a1 k), uo, ul, uv, (a5 k), (a6 k), (a7 k), (a8 k)) (xs (iv + 2)) (lj (xs (iv + 3)) (xs (iv + 4))) (lj (xs (iv + 5)) (xs (iv + 6)))).2.2.2.2.2.1), .int ((us_kp (nI k) ((a1 k), uo, ul, uv, (a5 k), (a6 k), (a7 k), (a8 k)) (xs (iv + 2)) (lj (xs (iv + 3)) (xs (iv + 4))) (lj (xs (iv + 5)) (xs (iv + 6)))).2.2.2.2.2.2.1), .int ((us_kp (nI k) ((a1 k), uo, ul, uv, (a5 k), (a6 k), (a7 k), (a8 k)) (xs (iv + 2)) (lj (xs (iv + 3)) (xs (iv + 4))) (lj (xs (iv + 5)) (xs (iv + 6)))).2.2.2.2.2.2.2)]))) es) : va_W) := (ws_c (ws' := (lw_W ct hd us op hm qo qa fu au ns n ck n ck 0 z2996 a1 a2 a3 a4 a5 a6 a7 a8 a9 b0 b1 b2 b3 b4 b5 b6 b7 b8 b9 b10 og fo ad (va_up eu k (.inr (1, [.int (nI k), .int ns, .int ((us_kp (nI k) ((a1 k), uo, ul, uv, (a5 k), (a6 k), (a7 k), (a8 k)) (xs (iv + 2)) (lj (xs (iv + 3)) (xs (iv + 4))) (lj (xs (iv + 5)) (xs (iv + 6)))).1), .long (lN (us_kp (nI k) ((a1 k), uo, ul, uv, (a5 k), (a6 k), (a7 k), (a8 k)) (xs (iv + 2)) (lj (xs (iv + 3)) (xs (iv + 4))) (lj (xs (iv + 5)) (xs (iv + 6)))).2.1), .long ((us_kp (nI k) ((a1 k), uo, ul, uv, (a5 k), (a6 k), (a7 k), (a8 k)) (xs (iv + 2)) (lj (xs (iv + 3)) (xs (iv + 4))) (lj (xs (iv + 5)) (xs (iv + 6)))).2.2.1), .long (lN (us_kp (nI k) ((a1 k), uo, ul, uv, (a5 k), (a6 k), (a7 k), (a8 k)) (xs (iv + 2)) (lj (xs (iv + 3)) (xs (iv + 4))) (lj (xs (iv + 5)) (xs (iv + 6)))).2.2.2.1), .int ((us_kp (nI k) ((a1 k), uo, ul, uv, (a5 k), (a6 k), (a7 k), (a8 k)) (xs (iv + 2)) (lj (xs (iv + 3)) (xs (iv + 4))) (lj (xs (iv + 5)) (xs (iv + 6)))).2.2.2.2.1), .int ((us_kp (nI k) ((a1 k), uo, ul, uv, (a5 k), (a6 k), (a7 k), (a8 k)) (xs (iv + 2)) (lj (xs (iv + 3)) (xs (iv + 4))) (lj (xs (iv + 5)) (xs (iv + 6)))).2.2.2.2.2.1), .int ((us_kp (nI k) ((a1 k), uo, ul, uv, (a5 k), (a6 k), (a7 k), (a8 k)) (xs (iv + 2)) (lj (xs (iv + 3)) (xs (iv + 4))) (lj (xs (iv + 5)) (xs (iv + 6)))).2.2.2.2.2.2.1), .int ((us_kp (nI k) ((a1 k), uo, ul, uv, (a5 k), (a6 k), (a7 k), (a8 k)) (xs (iv + 2)) (lj (xs (iv + 3)) (xs (iv + 4))) (lj (xs (iv + 5)) (xs (iv + 6)))).2.2.2.2.2.2.2)]))) es)) rfl (ws_c (ws' := (lw_W ct hd us op hm qo qa fu au ns n ck n ck 0 z2996 (upd a1 k (xs (iv + 2))) a2 a3 a4 a5 a6 a7 a8 a9 b0 b1 b2 b3 b4 b5 b6 b7 b8 b9 b10 og fo ad (va_up eu k (.inr (1, [.int (nI k), .int ns, .int ((us_kp (nI k) ((a1 k), uo, ul, uv, (a5 k), (a6 k), (a7 k), (a8 k)) (xs (iv + 2)) (lj (xs (iv + 3)) (xs (iv + 4))) (lj (xs (iv + 5)) (xs (iv + 6)))).1), .long (lN (us_kp (nI k) ((a1 k), uo, ul, uv, (a5 k), (a6 k), (a7 k), (a8 k)) (xs (iv + 2)) (lj (xs (iv + 3)) (xs (iv + 4))) (lj (xs (iv + 5)) (xs (iv + 6)))).2.1), .long ((us_kp (nI k) ((a1 k), uo, ul, uv, (a5 k), (a6 k), (a7 k), (a8 k)) (xs (iv + 2)) (lj (xs (iv + 3)) (xs (iv + 4))) (lj (xs (iv + 5)) (xs (iv + 6)))).2.2.1), .long (lN (us_kp (nI k) ((a1 k), uo, ul, uv, (a5 k), (a6 k), (a7 k), (a8 k)) (xs (iv + 2)) (lj (xs (iv + 3)) (xs (iv + 4))) (lj (xs (iv + 5)) (xs (iv + 6)))).2.2.2.1), .int ((us_kp (nI k) ((a1 k), uo, ul, uv, (a5 k), (a6 k), (a7 k), (a8 k)) (xs (iv + 2)) (lj (xs (iv + 3)) (xs (iv + 4))) (lj (xs (iv + 5)) (xs (iv + 6)))).2.2.2.2.1), .int ((us_kp (nI k) ((a1 k), uo, ul, uv, (a5 k), (a6 k), (a7 k), (a8 k)) (xs (iv + 2)) (lj (xs (iv + 3)) (xs (iv + 4))) (lj (xs (iv + 5)) (xs (iv + 6)))).2.2.2.2.2.1), .int ((us_kp (nI k) ((a1 k), uo, ul, uv, (a5 k), (a6 k), (a7 k), (a8 k)) (xs (iv + 2)) (lj (xs (iv + 3)) (xs (iv + 4))) (lj (xs (iv + 5)) (xs (iv + 6)))).2.2.2.2.2.2.1), .int ((us_kp (nI k) ((a1 k), uo, ul, uv, (a5 k), (a6 k), (a7 k), (a8 k)) (xs (iv + 2)) (lj (xs (iv + 3)) (xs (iv + 4))) (lj (xs (iv + 5)) (xs (iv + 6)))).2.2.2.2.2.2.2)]))) es)) rfl (ws_c (ws' := (lw_W ct hd us op hm qo qa fu au ns n ck n ck 0 z2996 (upd a1 k (xs (iv + 2))) (vp_updL a2 k (lN (wd_n (nI k) (lj (xs (iv + 3)) (xs (iv + 4)))))) a3 a4 a5 a6 a7 a8 a9 b0 b1 b2 b3 b4 b5 b6 b7 b8 b9 b10 og fo ad (va_up eu k (.inr (1, [.int (nI k), .int ns, .int ((us_kp (nI k) ((a1 k), uo, ul, uv, (a5 k), (a6 k), (a7 k), (a8 k)) (xs (iv + 2)) (lj (xs (iv + 3)) (xs (iv + 4))) (lj (xs (iv + 5)) (xs (iv + 6)))).1), .long (lN (us_kp (nI k) ((a1 k), uo, ul, uv, (a5 k), (a6 k), (a7 k), (a8 k)) (xs (iv + 2)) (lj (xs (iv + 3)) (xs (iv + 4))) (lj (xs (iv + 5)) (xs (iv + 6)))).2.1), .long ((us_kp (nI k) ((a1 k), uo, ul, uv, (a5 k), (a6 k), (a7 k), (a8 k)) (xs (iv + 2)) (lj (xs (iv + 3)) (xs (iv + 4))) (lj (xs (iv + 5)) (xs (iv + 6)))).2.2.1), .long (lN (us_kp (nI k) ((a1 k), uo, ul, uv, (a5 k), (a6 k), (a7 k), (a8 k)) (xs (iv + 2)) (lj (xs (iv + 3)) (xs (iv + 4))) (lj (xs (iv + 5)) (xs (iv + 6)))).2.2.2.1), .int ((us_kp (nI k) ((a1 k), uo, ul, uv, (a5 k), (a6 k), (a7 k), (a8 k)) (xs (iv + 2)) (lj (xs (iv + 3)) (xs (iv + 4))) (lj (xs (iv + 5)) (xs (iv + 6)))).2.2.2.2.1), .int ((us_kp (nI k) ((a1 k), uo, ul, uv, (a5 k), (a6 k), (a7 k), (a8 k)) (xs (iv + 2)) (lj (xs (iv + 3)) (xs (iv + 4))) (lj (xs (iv + 5)) (xs (iv + 6)))).2.2.2.2.2.1), .int ((us_kp (nI k) ((a1 k), uo, ul, uv, (a5 k), (a6 k), (a7 k), (a8 k)) (xs (iv + 2)) (lj (xs (iv + 3)) (xs (iv + 4))) (lj (xs (iv + 5)) (xs (iv + 6)))).2.2.2.2.2.2.1), .int ((us_kp (nI k) ((a1 k), uo, ul, uv, (a5 k), (a6 k), (a7 k), (a8 k)) (xs (iv + 2)) (lj (xs (iv + 3)) (xs (iv + 4))) (lj (xs (iv + 5)) (xs (iv + 6)))).2.2.2.2.2.2.2)]))) es)) rfl (ws_c (ws' := (lw_W ct hd us op hm qo qa fu au ns n ck n ck 0 z2996 (upd a1 k (xs (iv + 2))) (vp_updL a2 k (lN (wd_n (nI k) (lj (xs (iv + 3)) (xs (iv + 4)))))) (vp_updL a3 k (lj (xs (iv + 5)) (xs (iv + 6)))) a4 a5 a6 a7 a8 a9 b0 b1 b2 b3 b4 b5 b6 b7 b8 b9 b10 og fo ad (va_up eu k (.inr (1, [.int (nI k), .int ns, .int ((us_kp (nI k) ((a1 k), uo, ul, uv, (a5 k), (a6 k), (a7 k), (a8 k)) (xs (iv + 2)) (lj (xs (iv + 3)) (xs (iv + 4))) (lj (xs (iv + 5)) (xs (iv + 6)))).1), .long (lN (us_kp (nI k) ((a1 k), uo, ul, uv, (a5 k), (a6 k), (a7 k), (a8 k)) (xs (iv + 2)) (lj (xs (iv + 3)) (xs (iv + 4))) (lj (xs (iv + 5)) (xs (iv + 6)))).2.1), .long ((us_kp (nI k) ((a1 k), uo, ul, uv, (a5 k), (a6 k), (a7 k), (a8 k)) (xs (iv + 2)) (lj (xs (iv + 3)) (xs (iv + 4))) (lj (xs (iv + 5)) (xs (iv + 6)))).2.2.1), .long (lN (us_kp (nI k) ((a1 k), uo, ul, uv, (a5 k), (a6 k), (a7 k), (a8 k)) (xs (iv + 2)) (lj (xs (iv + 3)) (xs (iv + 4))) (lj (xs (iv + 5)) (xs (iv + 6)))).2.2.2.1), .int ((us_kp (nI k) ((a1 k), uo, ul, uv, (a5 k), (a6 k), (a7 k), (a8 k)) (xs (iv + 2)) (lj (xs (iv + 3)) (xs (iv + 4))) (lj (xs (iv + 5)) (xs (iv + 6)))).2.2.2.2.1), .int ((us_kp (nI k) ((a1 k), uo, ul, uv, (a5 k), (a6 k), (a7 k), (a8 k)) (xs (iv + 2)) (lj (xs (iv + 3)) (xs (iv + 4))) (lj (xs (iv + 5)) (xs (iv + 6)))).2.2.2.2.2.1), .int ((us_kp (nI k) ((a1 k), uo, ul, uv, (a5 k), (a6 k), (a7 k), (a8 k)) (xs (iv + 2)) (lj (xs (iv + 3)) (xs (iv + 4))) (lj (xs (iv + 5)) (xs (iv + 6)))).2.2.2.2.2.2.1), .int ((us_kp (nI k) ((a1 k), uo, ul, uv, (a5 k), (a6 k), (a7 k), (a8 k)) (xs (iv + 2)) (lj (xs (iv + 3)) (xs (iv + 4))) (lj (xs (iv + 5)) (xs (iv + 6)))).2.2.2.2.2.2.2)]))) es)) rfl (ws_c (ws' := (lw_W ct hd us op hm qo qa fu au ns n ck n ck 0 z2996 (upd a1 k (xs (iv + 2))) (vp_updL a2 k (lN (wd_n (nI k) (lj (xs (iv + 3)) (xs (iv + 4)))))) (vp_updL a3 k (lj (xs (iv + 5)) (xs (iv + 6)))) (vp_updL a4 k (lN (pw_m 4 (ex_n (lj (xs (iv + 5)) (xs (iv + 6))) (nI k) (lj (xs (iv + 3)) (xs (iv + 4))))))) a5 a6 a7 a8 a9 b0 b1 b2 b3 b4 b5 b6 b7 b8 b9 b10 og fo ad (va_up eu k (.inr (1, [.int (nI k), .int ns, .int ((us_kp (nI k) ((a1 k), uo, ul, uv, (a5 k), (a6 k), (a7 k), (a8 k)) (xs (iv + 2)) (lj (xs (iv + 3)) (xs (iv + 4))) (lj (xs (iv + 5)) (xs (iv + 6)))).1), .long (lN (us_kp (nI k) ((a1 k), uo, ul, uv, (a5 k), (a6 k), (a7 k), (a8 k)) (xs (iv + 2)) (lj (xs (iv + 3)) (xs (iv + 4))) (lj (xs (iv + 5)) (xs (iv + 6)))).2.1), .long ((us_kp (nI k) ((a1 k), uo, ul, uv, (a5 k), (a6 k), (a7 k), (a8 k)) (xs (iv + 2)) (lj (xs (iv + 3)) (xs (iv + 4))) (lj (xs (iv + 5)) (xs (iv + 6)))).2.2.1), .long (lN (us_kp (nI k) ((a1 k), uo, ul, uv, (a5 k), (a6 k), (a7 k), (a8 k)) (xs (iv + 2)) (lj (xs (iv + 3)) (xs (iv + 4))) (lj (xs (iv + 5)) (xs (iv + 6)))).2.2.2.1), .int ((us_kp (nI k) ((a1 k), uo, ul, uv, (a5 k), (a6 k), (a7 k), (a8 k)) (xs (iv + 2)) (lj (xs (iv + 3)) (xs (iv + 4))) (lj (xs (iv + 5)) (xs (iv + 6)))).2.2.2.2.1), .int ((us_kp (nI k) ((a1 k), uo, ul, uv, (a5 k), (a6 k), (a7 k), (a8 k)) (xs (iv + 2)) (lj (xs (iv + 3)) (xs (iv + 4))) (lj (xs (iv + 5)) (xs (iv + 6)))).2.2.2.2.2.1), .int ((us_kp (nI k) ((a1 k), uo, ul, uv, (a5 k), (a6 k), (a7 k), (a8 k)) (xs (iv + 2)) (lj (xs (iv + 3)) (xs (iv + 4))) (lj (xs (iv + 5)) (xs (iv + 6)))).2.2.2.2.2.2.1), .int ((us_kp (nI k) ((a1 k), uo, ul, uv, (a5 k), (a6 k), (a7 k), (a8 k)) (xs (iv + 2)) (lj (xs (iv + 3)) (xs (iv + 4))) (lj (xs (iv + 5)) (xs (iv + 6)))).2.2.2.2.2.2.2)]))) es)) rfl rfl)))))
  have hP : va_P G classes (lw_W ct hd us op hm qo qa fu au ns n ck n ck 0 z2996 (upd a1 k (xs (iv + 2))) (vp_updL a2 k (lN (wd_n (nI k) (lj (xs (iv + 3)) (xs (iv + 4)))))) (vp_updL a3 k (lj (xs (iv + 5)) (xs (iv + 6)))) (vp_updL a4 k (lN (pw_m 4 (ex_n (lj (xs (iv + 5)) (xs (iv + 6))) (nI k) (lj (xs (iv + 3)) (xs (iv + 4))))))) a5 a6 a7 a8 a9 b0 b1 b2 b3 b4 b5 b6 b7 b8 b9 b10 og fo ad (va_up eu k (.inr (1, [.int (nI k), .int ns, .int ((us_kp (nI k) ((a1 k), uo, ul, uv, (a5 k), (a6 k), (a7 k), (a8 k)) (xs (iv + 2)) (lj (xs (iv + 3)) (xs (iv + 4))) (lj (xs (iv + 5)) (xs (iv + 6)))).1), .long (lN (us_kp (nI k) ((a1 k), uo, ul, uv, (a5 k), (a6 k), (a7 k), (a8 k)) (xs (iv + 2)) (lj (xs (iv + 3)) (xs (iv + 4))) (lj (xs (iv + 5)) (xs (iv + 6)))).2.1), .long ((us_kp (nI k) ((a1 k), uo, ul, uv, (a5 k), (a6 k), (a7 k), (a8 k)) (xs (iv + 2)) (lj (xs (iv + 3)) (xs (iv + 4))) (lj (xs (iv + 5)) (xs (iv + 6)))).2.2.1), .long (lN (us_kp (nI k) ((a1 k), uo, ul, uv, (a5 k), (a6 k), (a7 k), (a8 k)) (xs (iv + 2)) (lj (xs (iv + 3)) (xs (iv + 4))) (lj (xs (iv + 5)) (xs (iv + 6)))).2.2.2.1), .int ((us_kp (nI k) ((a1 k), uo, ul, uv, (a5 k), (a6 k), (a7 k), (a8 k)) (xs (iv + 2)) (lj (xs (iv + 3)) (xs (iv + 4))) (lj (xs (iv + 5)) (xs (iv + 6)))).2.2.2.2.1), .int ((us_kp (nI k) ((a1 k), uo, ul, uv, (a5 k), (a6 k), (a7 k), (a8 k)) (xs (iv + 2)) (lj (xs (iv + 3)) (xs (iv + 4))) (lj (xs (iv + 5)) (xs (iv + 6)))).2.2.2.2.2.1), .int ((us_kp (nI k) ((a1 k), uo, ul, uv, (a5 k), (a6 k), (a7 k), (a8 k)) (xs (iv + 2)) (lj (xs (iv + 3)) (xs (iv + 4))) (lj (xs (iv + 5)) (xs (iv + 6)))).2.2.2.2.2.2.1), .int ((us_kp (nI k) ((a1 k), uo, ul, uv, (a5 k), (a6 k), (a7 k), (a8 k)) (xs (iv + 2)) (lj (xs (iv + 3)) (xs (iv + 4))) (lj (xs (iv + 5)) (xs (iv + 6)))).2.2.2.2.2.2.2)]))) es) H := lp_P hW9 hP
  have hD : va_D A (lw_W ct hd us op hm qo qa fu au ns n ck n ck 0 z2996 (upd a1 k (xs (iv + 2))) (vp_updL a2 k (lN (wd_n (nI k) (lj (xs (iv + 3)) (xs (iv + 4)))))) (vp_updL a3 k (lj (xs (iv + 5)) (xs (iv + 6)))) (vp_updL a4 k (lN (pw_m 4 (ex_n (lj (xs (iv + 5)) (xs (iv + 6))) (nI k) (lj (xs (iv + 3)) (xs (iv + 4))))))) a5 a6 a7 a8 a9 b0 b1 b2 b3 b4 b5 b6 b7 b8 b9 b10 og fo ad (va_up eu k (.inr (1, [.int (nI k), .int ns, .int ((us_kp (nI k) ((a1 k), uo, ul, uv, (a5 k), (a6 k), (a7 k), (a8 k)) (xs (iv + 2)) (lj (xs (iv + 3)) (xs (iv + 4))) (lj (xs (iv + 5)) (xs (iv + 6)))).1), .long (lN (us_kp (nI k) ((a1 k), uo, ul, uv, (a5 k), (a6 k), (a7 k), (a8 k)) (xs (iv + 2)) (lj (xs (iv + 3)) (xs (iv + 4))) (lj (xs (iv + 5)) (xs (iv + 6)))).2.1), .long ((us_kp (nI k) ((a1 k), uo, ul, uv, (a5 k), (a6 k), (a7 k), (a8 k)) (xs (iv + 2)) (lj (xs (iv + 3)) (xs (iv + 4))) (lj (xs (iv + 5)) (xs (iv + 6)))).2.2.1), .long (lN (us_kp (nI k) ((a1 k), uo, ul, uv, (a5 k), (a6 k), (a7 k), (a8 k)) (xs (iv + 2)) (lj (xs (iv + 3)) (xs (iv + 4))) (lj (xs (iv + 5)) (xs (iv + 6)))).2.2.2.1), .int ((us_kp (nI k) ((a1 k), uo, ul, uv, (a5 k), (a6 k), (a7 k), (a8 k)) (xs (iv + 2)) (lj (xs (iv + 3)) (xs (iv + 4))) (lj (xs (iv + 5)) (xs (iv + 6)))).2.2.2.2.1), .int ((us_kp (nI k) ((a1 k), uo, ul, uv, (a5 k), (a6 k), (a7 k), (a8 k)) (xs (iv + 2)) (lj (xs (iv + 3)) (xs (iv + 4))) (lj (xs (iv + 5)) (xs (iv + 6)))).2.2.2.2.2.1), .int ((us_kp (nI k) ((a1 k), uo, ul, uv, (a5 k), (a6 k), (a7 k), (a8 k)) (xs (iv + 2)) (lj (xs (iv + 3)) (xs (iv + 4))) (lj (xs (iv + 5)) (xs (iv + 6)))).2.2.2.2.2.2.1), .int ((us_kp (nI k) ((a1 k), uo, ul, uv, (a5 k), (a6 k), (a7 k), (a8 k)) (xs (iv + 2)) (lj (xs (iv + 3)) (xs (iv + 4))) (lj (xs (iv + 5)) (xs (iv + 6)))).2.2.2.2.2.2.2)]))) es) := lp_D hW9 hD
  refine lv_icmp_eq (tgt := 1005) hx hb d_L_law_242 (by decide) (fun h997 => ?_) (fun h997 => ?_)
  · refine W.widen (k := cells + 1) (n := slots + 13) (by omega) (by omega) ?_
    exact kk n ck 0 z2996 (upd a1 k (xs (iv + 2))) (vp_updL a2 k (lN (wd_n (nI k) (lj (xs (iv + 3)) (xs (iv + 4)))))) (vp_updL a3 k (lj (xs (iv + 5)) (xs (iv + 6)))) (vp_updL a4 k (lN (pw_m 4 (ex_n (lj (xs (iv + 5)) (xs (iv + 6))) (nI k) (lj (xs (iv + 3)) (xs (iv + 4))))))) a5 a6 a7 a8 a9 b0 b1 b2 b3 b4 b5 b6 b7 b8 b9 b10 og fo ad (va_up eu k (.inr (1, [.int (nI k), .int ns, .int ((us_kp (nI k) ((a1 k), uo, ul, uv, (a5 k), (a6 k), (a7 k), (a8 k)) (xs (iv + 2)) (lj (xs (iv + 3)) (xs (iv + 4))) (lj (xs (iv + 5)) (xs (iv + 6)))).1), .long (lN (us_kp (nI k) ((a1 k), uo, ul, uv, (a5 k), (a6 k), (a7 k), (a8 k)) (xs (iv + 2)) (lj (xs (iv + 3)) (xs (iv + 4))) (lj (xs (iv + 5)) (xs (iv + 6)))).2.1), .long ((us_kp (nI k) ((a1 k), uo, ul, uv, (a5 k), (a6 k), (a7 k), (a8 k)) (xs (iv + 2)) (lj (xs (iv + 3)) (xs (iv + 4))) (lj (xs (iv + 5)) (xs (iv + 6)))).2.2.1), .long (lN (us_kp (nI k) ((a1 k), uo, ul, uv, (a5 k), (a6 k), (a7 k), (a8 k)) (xs (iv + 2)) (lj (xs (iv + 3)) (xs (iv + 4))) (lj (xs (iv + 5)) (xs (iv + 6)))).2.2.2.1), .int ((us_kp (nI k) ((a1 k), uo, ul, uv, (a5 k), (a6 k), (a7 k), (a8 k)) (xs (iv + 2)) (lj (xs (iv + 3)) (xs (iv + 4))) (lj (xs (iv + 5)) (xs (iv + 6)))).2.2.2.2.1), .int ((us_kp (nI k) ((a1 k), uo, ul, uv, (a5 k), (a6 k), (a7 k), (a8 k)) (xs (iv + 2)) (lj (xs (iv + 3)) (xs (iv + 4))) (lj (xs (iv + 5)) (xs (iv + 6)))).2.2.2.2.2.1), .int ((us_kp (nI k) ((a1 k), uo, ul, uv, (a5 k), (a6 k), (a7 k), (a8 k)) (xs (iv + 2)) (lj (xs (iv + 3)) (xs (iv + 4))) (lj (xs (iv + 5)) (xs (iv + 6)))).2.2.2.2.2.2.1), .int ((us_kp (nI k) ((a1 k), uo, ul, uv, (a5 k), (a6 k), (a7 k), (a8 k)) (xs (iv + 2)) (lj (xs (iv + 3)) (xs (iv + 4))) (lj (xs (iv + 5)) (xs (iv + 6)))).2.2.2.2.2.2.2)]))) es H locs _ hnew hP hD hS (lv_sub hl [0, 1, 2, 3, 4] rfl)
  · exact absurd h997 (by decide)
set_option maxHeartbeats 4000000 in
set_option maxRecDepth 100000 in
theorem lq_register2 {k : Nat} {uo : Nat} {ul : Int64} {uv : Nat} (C0 : lc_C p l s m meth c b L xs G ct A) (hiv : iv + 7 ≤ L) (hcc : cells + 1 ≤ room_1.cells) (hzz : slots + 13 ≤ room_1.slots)
    (hP : va_P G classes (lw_W ct hd us op hm qo qa fu au ns n ck n ck th hh a1 a2 a3 a4 a5 a6 a7 a8 a9 b0 b1 b2 b3 b4 b5 b6 b7 b8 b9 b10 og fo ad eu es) H) (hD : va_D A (lw_W ct hd us op hm qo qa fu au ns n ck n ck th hh a1 a2 a3 a4 a5 a6 a7 a8 a9 b0 b1 b2 b3 b4 b5 b6 b7 b8 b9 b10 og fo ad eu es)) (hS : va_S A s.heap H locs) (hl : lv_has ls 8 [(4, .int (nI iv)), (3, .ref qo), (2, .ref hm), (1, .ref hd), (0, .ref b)])
    (kk : lc_K p l e s m below meth c b L xs G ct A hd us op hm qo qa fu au ns iv (cells + 1) (slots + 13) Q)
    (hv1 : xs (iv + 1) = nI k) (hk8 : k < 8) (heu : eu k = .inr (1, [.int (nI k), .int ns, .int (a1 k), .long (lN uo), .long ul, .long (lN uv), .int (a5 k), .int (a6 k), .int (a7 k), .int (a8 k)])) (d_hk : k < 8) (d_hfu : fu k = some (au k)) (d_hwi : ¬ wy_in (xs (iv + 2))) (m_hno : ¬ (us_in (nI k) ∧ wy_in (xs (iv + 2))))  (hnew : li_R fu au ns n a1 a2 a3 a4 a5 a6 a7 a8 a9 b0 b1 b2 b3 b4 b5 b6 b7 b8 b9 b10 fo ad eu es)  : W p l e room_1 s m #[Value.ref b] below meth c H locs cells slots Q (F0 m 120 ls []) := by
  obtain ⟨hx, hb, hr, hml, hown, hw, hK, hZ, hR, hN, hfl, hA, hbA, hX, hbl, hL, hlocks⟩ := C0
  have hts := hw
  have hP : va_P G classes (lw_W ct hd us op hm qo qa fu au ns n ck n ck th hh a1 a2 a3 a4 a5 a6 a7 a8 a9 b0 b1 b2 b3 b4 b5 b6 b7 b8 b9 b10 og fo ad eu es) H := hP
  have hD : va_D A (lw_W ct hd us op hm qo qa fu au ns n ck n ck th hh a1 a2 a3 a4 a5 a6 a7 a8 a9 b0 b1 b2 b3 b4 b5 b6 b7 b8 b9 b10 og fo ad eu es) := hD
  refine lv_aload_n hx hb d_L_law_120 rfl (lv_at hl 3 rfl) ?_
  refine lv_aload_n hx hb d_L_law_121 rfl (lv_at hl 4 rfl) ?_
  refine lv_iload hx hb d_L_law_122 (lv_at hl 0 rfl) ?_
  refine lv_iconst (v := 1) hx hb d_L_law_124 (by decide) ?_
  refine lv_iadd hx hb d_L_law_125 ?_
  refine sl_ld (j := iv) (d := 1) hx hb hX hbl hbA hS hL (by omega) d_L_law_126 ?_
  refine tp_i (hv1) ?_
  refine lv_aload_n hx hb d_L_law_127 rfl (lv_at hl 4 rfl) ?_
  refine lv_iload hx hb d_L_law_128 (lv_at hl 0 rfl) ?_
  refine lv_iconst (v := 2) hx hb d_L_law_130 (by decide) ?_
  refine lv_iadd hx hb d_L_law_131 ?_
  refine sl_ld (j := iv) (d := 2) hx hb hX hbl hbA hS hL (by omega) d_L_law_132 ?_
  refine lv_aload_n hx hb d_L_law_133 rfl (lv_at hl 4 rfl) ?_
  refine lv_iload hx hb d_L_law_134 (lv_at hl 0 rfl) ?_
  refine lv_iconst (v := 3) hx hb d_L_law_136 (by decide) ?_
  refine lv_iadd hx hb d_L_law_137 ?_
  refine sl_ld (j := iv) (d := 3) hx hb hX hbl hbA hS hL (by omega) d_L_law_138 ?_
  refine lv_i2l (v := (xs (iv + 3)).toInt64) hx hb d_L_law_139 rfl ?_
  refine lv_bipush (v := 32) hx hb d_L_law_140 (by decide) ?_
  refine lv_lshl (v := ((xs (iv + 3)).toInt64) <<< ((32 : Int32).toInt64 &&& 63)) hx hb d_L_law_142 rfl ?_
  refine lv_aload_n hx hb d_L_law_143 rfl (lv_at hl 4 rfl) ?_
  refine lv_iload hx hb d_L_law_144 (lv_at hl 0 rfl) ?_
  refine lv_iconst (v := 4) hx hb d_L_law_146 (by decide) ?_
  refine lv_iadd hx hb d_L_law_147 ?_
  refine sl_ld (j := iv) (d := 4) hx hb hX hbl hbA hS hL (by omega) d_L_law_148 ?_
  refine lv_i2l (v := (xs (iv + 4)).toInt64) hx hb d_L_law_149 rfl ?_
  refine lv_ldc2 (v := 4294967295) hx hb hown (hw _ ww_884) d_L_law_150 ?_
  refine lv_land hx hb d_L_law_153 ?_
  refine lv_lor hx hb d_L_law_154 ?_
  refine tp_l (rfl) ?_
  refine lv_aload_n hx hb d_L_law_155 rfl (lv_at hl 4 rfl) ?_
  refine lv_iload hx hb d_L_law_156 (lv_at hl 0 rfl) ?_
  refine lv_iconst (v := 5) hx hb d_L_law_158 (by decide) ?_
  refine lv_iadd hx hb d_L_law_159 ?_
  refine sl_ld (j := iv) (d := 5) hx hb hX hbl hbA hS hL (by omega) d_L_law_160 ?_
  refine lv_i2l (v := (xs (iv + 5)).toInt64) hx hb d_L_law_161 rfl ?_
  refine lv_bipush (v := 32) hx hb d_L_law_162 (by decide) ?_
  refine lv_lshl (v := ((xs (iv + 5)).toInt64) <<< ((32 : Int32).toInt64 &&& 63)) hx hb d_L_law_164 rfl ?_
  refine lv_aload_n hx hb d_L_law_165 rfl (lv_at hl 4 rfl) ?_
  refine lv_iload hx hb d_L_law_166 (lv_at hl 0 rfl) ?_
  refine lv_bipush (v := 6) hx hb d_L_law_168 (by decide) ?_
  refine lv_iadd hx hb d_L_law_170 ?_
  refine sl_ld (j := iv) (d := 6) hx hb hX hbl hbA hS hL (by omega) d_L_law_171 ?_
  refine lv_i2l (v := (xs (iv + 6)).toInt64) hx hb d_L_law_172 rfl ?_
  refine lv_ldc2 (v := 4294967295) hx hb hown (hw _ ww_884) d_L_law_173 ?_
  refine lv_land hx hb d_L_law_176 ?_
  refine lv_lor hx hb d_L_law_177 ?_
  refine tp_l (rfl) ?_
  have hC9 : List.map (fun i => ((lw_W ct hd us op hm qo qa fu au ns n ck n ck th hh a1 a2 a3 a4 a5 a6 a7 a8 a9 b0 b1 b2 b3 b4 b5 b6 b7 b8 b9 b10 og fo ad eu es) : va_W)[i]?) [22, 23, 25 + k] = List.map some ([(hd, .inr (0, [.ref us, .ref op, .int (nI n), .int ck])), (us, .inl ((ct 3), 8, .inr (.inr (.inr (.inr fu))))), ((au k), .inr (1, [.int (nI k), .int ns, .int (a1 k), .long (lN uo), .long ul, .long (lN uv), .int (a5 k), .int (a6 k), .int (a7 k), .int (a8 k)]))] : va_W) := (wc_c rfl (wc_c rfl (wc_c (lw_u rfl hk8 heu) rfl)))
  have hn9 : va_nd [22, 23, 25 + k] = true := (nd_c (by simp only [List.mem_cons, List.not_mem_nil, or_false]; omega) (nd_c (by simp only [List.mem_cons, List.not_mem_nil, or_false]; omega) (nd_c List.not_mem_nil rfl)))
  have hPc : va_P G classes [(hd, .inr (0, [.ref us, .ref op, .int (nI n), .int ck])), (us, .inl ((ct 3), 8, .inr (.inr (.inr (.inr fu))))), ((au k), .inr (1, [.int (nI k), .int ns, .int (a1 k), .long (lN uo), .long ul, .long (lN uv), .int (a5 k), .int (a6 k), .int (a7 k), .int (a8 k)]))] H := lp_sub hP [22, 23, 25 + k] hC9
  have hDc := hD.sub (ws' := [(hd, .inr (0, [.ref us, .ref op, .int (nI n), .int ck])), (us, .inl ((ct 3), 8, .inr (.inr (.inr (.inr fu))))), ((au k), .inr (1, [.int (nI k), .int ns, .int (a1 k), .long (lN uo), .long ul, .long (lN uv), .int (a5 k), .int (a6 k), .int (a7 k), .int (a8 k)]))]) [22, 23, 25 + k] hn9 hC9
  refine vp_callSi (W.runV (As := [.int (nI k), .int (xs (iv + 2)), .long (lj (xs (iv + 3)) (xs (iv + 4))), .long (lj (xs (iv + 5)) (xs (iv + 6)))]) (rest := []) ⟨hx, hb, hml, hown, hts⟩ (c_D_register2 l G ct H.size hd us op n ck fu (au k) k (nI k) ns (a1 k) uo ul uv (a5 k) (a6 k) (a7 k) (a8 k) (xs (iv + 2)) (lj (xs (iv + 3)) (xs (iv + 4))) (lj (xs (iv + 5)) (xs (iv + 6))) d_hk d_hfu d_hwi) (tb_V hw cy_D_register ww_81 ww_82 ww_83 rfl rfl ⟨Nat.le_of_ble_eq_true rfl, Nat.le_of_ble_eq_true rfl⟩) (wk_preV (ci := 0) (q0 := 0) hPc hK hDc rfl rfl) rfl rfl hl.1 rfl (lv_room (Nat.le_of_ble_eq_true rfl)) d_L_law_178 ⟨by omega, by omega⟩) (fun r998 er998 => ?_)
  rw [er998]
  refine lv_aload_n hx hb d_L_law_181 rfl (lv_at hl 2 rfl) ?_
  refine lv_aload_n hx hb d_L_law_182 rfl (lv_at hl 4 rfl) ?_
  refine lv_iload hx hb d_L_law_183 (lv_at hl 0 rfl) ?_
  refine lv_iconst (v := 1) hx hb d_L_law_185 (by decide) ?_
  refine lv_iadd hx hb d_L_law_186 ?_
  refine sl_ld (j := iv) (d := 1) hx hb hX hbl hbA hS hL (by omega) d_L_law_187 ?_
  refine tp_i (hv1) ?_
  refine lv_aload_n hx hb d_L_law_188 rfl (lv_at hl 4 rfl) ?_
  refine lv_iload hx hb d_L_law_189 (lv_at hl 0 rfl) ?_
  refine lv_iconst (v := 2) hx hb d_L_law_191 (by decide) ?_
  refine lv_iadd hx hb d_L_law_192 ?_
  refine sl_ld (j := iv) (d := 2) hx hb hX hbl hbA hS hL (by omega) d_L_law_193 ?_
  refine lv_aload_n hx hb d_L_law_194 rfl (lv_at hl 4 rfl) ?_
  refine lv_iload hx hb d_L_law_195 (lv_at hl 0 rfl) ?_
  refine lv_iconst (v := 3) hx hb d_L_law_197 (by decide) ?_
  refine lv_iadd hx hb d_L_law_198 ?_
  refine sl_ld (j := iv) (d := 3) hx hb hX hbl hbA hS hL (by omega) d_L_law_199 ?_
  refine lv_i2l (v := (xs (iv + 3)).toInt64) hx hb d_L_law_200 rfl ?_
  refine lv_bipush (v := 32) hx hb d_L_law_201 (by decide) ?_
  refine lv_lshl (v := ((xs (iv + 3)).toInt64) <<< ((32 : Int32).toInt64 &&& 63)) hx hb d_L_law_203 rfl ?_
  refine lv_aload_n hx hb d_L_law_204 rfl (lv_at hl 4 rfl) ?_
  refine lv_iload hx hb d_L_law_205 (lv_at hl 0 rfl) ?_
  refine lv_iconst (v := 4) hx hb d_L_law_207 (by decide) ?_
  refine lv_iadd hx hb d_L_law_208 ?_
  refine sl_ld (j := iv) (d := 4) hx hb hX hbl hbA hS hL (by omega) d_L_law_209 ?_
  refine lv_i2l (v := (xs (iv + 4)).toInt64) hx hb d_L_law_210 rfl ?_
  refine lv_ldc2 (v := 4294967295) hx hb hown (hw _ ww_884) d_L_law_211 ?_
  refine lv_land hx hb d_L_law_214 ?_
  refine lv_lor hx hb d_L_law_215 ?_
  refine tp_l (rfl) ?_
  refine lv_aload_n hx hb d_L_law_216 rfl (lv_at hl 4 rfl) ?_
  refine lv_iload hx hb d_L_law_217 (lv_at hl 0 rfl) ?_
  refine lv_iconst (v := 5) hx hb d_L_law_219 (by decide) ?_
  refine lv_iadd hx hb d_L_law_220 ?_
  refine sl_ld (j := iv) (d := 5) hx hb hX hbl hbA hS hL (by omega) d_L_law_221 ?_
  refine lv_i2l (v := (xs (iv + 5)).toInt64) hx hb d_L_law_222 rfl ?_
  refine lv_bipush (v := 32) hx hb d_L_law_223 (by decide) ?_
  refine lv_lshl (v := ((xs (iv + 5)).toInt64) <<< ((32 : Int32).toInt64 &&& 63)) hx hb d_L_law_225 rfl ?_
  refine lv_aload_n hx hb d_L_law_226 rfl (lv_at hl 4 rfl) ?_
  refine lv_iload hx hb d_L_law_227 (lv_at hl 0 rfl) ?_
  refine lv_bipush (v := 6) hx hb d_L_law_229 (by decide) ?_
  refine lv_iadd hx hb d_L_law_231 ?_
  refine sl_ld (j := iv) (d := 6) hx hb hX hbl hbA hS hL (by omega) d_L_law_232 ?_
  refine lv_i2l (v := (xs (iv + 6)).toInt64) hx hb d_L_law_233 rfl ?_
  refine lv_ldc2 (v := 4294967295) hx hb hown (hw _ ww_884) d_L_law_234 ?_
  refine lv_land hx hb d_L_law_237 ?_
  refine lv_lor hx hb d_L_law_238 ?_
  refine tp_l (rfl) ?_
  have hC9 : List.map (fun i => ((lw_W ct hd us op hm qo qa fu au ns n ck n ck th hh a1 a2 a3 a4 a5 a6 a7 a8 a9 b0 b1 b2 b3 b4 b5 b6 b7 b8 b9 b10 og fo ad eu es) : va_W)[i]?) [0] = List.map some ([(hm, .inr (4, [.int th, .long ns.toInt64, .int ck, .long hh, .ref (qa 1), .ref (qa 2), .ref (qa 3), .ref (qa 4), .ref (qa 5), .ref (qa 6), .ref (qa 7), .ref (qa 8), .int (nI n), .ref (qa 9), .ref (qa 10), .ref (qa 11), .ref (qa 12), .ref (qa 13), .ref (qa 14), .ref (qa 15), .ref (qa 16), .ref (qa 17), .ref (qa 18), .ref (qa 19), .ref (qa 20)]))] : va_W) := (wc_c rfl rfl)
  have hn9 : va_nd [0] = true := by decide
  have hPc : va_P G classes [(hm, .inr (4, [.int th, .long ns.toInt64, .int ck, .long hh, .ref (qa 1), .ref (qa 2), .ref (qa 3), .ref (qa 4), .ref (qa 5), .ref (qa 6), .ref (qa 7), .ref (qa 8), .int (nI n), .ref (qa 9), .ref (qa 10), .ref (qa 11), .ref (qa 12), .ref (qa 13), .ref (qa 14), .ref (qa 15), .ref (qa 16), .ref (qa 17), .ref (qa 18), .ref (qa 19), .ref (qa 20)]))] H := lp_sub hP [0] hC9
  have hDc := hD.sub (ws' := [(hm, .inr (4, [.int th, .long ns.toInt64, .int ck, .long hh, .ref (qa 1), .ref (qa 2), .ref (qa 3), .ref (qa 4), .ref (qa 5), .ref (qa 6), .ref (qa 7), .ref (qa 8), .int (nI n), .ref (qa 9), .ref (qa 10), .ref (qa 11), .ref (qa 12), .ref (qa 13), .ref (qa 14), .ref (qa 15), .ref (qa 16), .ref (qa 17), .ref (qa 18), .ref (qa 19), .ref (qa 20)]))]) [0] hn9 hC9
  refine wk_i (va_runV (As := [.int (nI k), .int (xs (iv + 2)), .long (lj (xs (iv + 3)) (xs (iv + 4))), .long (lj (xs (iv + 5)) (xs (iv + 6)))]) (rest := [.int 0]) ⟨hx, hb, hml, hown, hts⟩ (c_M_register0 l G ct H.size hm th ns.toInt64 ck hh (qa 1) (qa 2) (qa 3) (qa 4) (qa 5) (qa 6) (qa 7) (qa 8) (qa 9) (qa 10) (qa 11) (qa 12) (qa 13) (qa 14) (qa 15) (qa 16) (qa 17) (qa 18) (qa 19) (qa 20) n (nI k) (xs (iv + 2)) (lj (xs (iv + 3)) (xs (iv + 4))) (lj (xs (iv + 5)) (xs (iv + 6))) m_hno) (tb_V hw cy_M_register ww_723 ww_724 ww_725 rfl rfl ⟨Nat.le_of_ble_eq_true rfl, Nat.le_of_ble_eq_true rfl⟩) (wk_preV (ci := 4) (q0 := 0) hPc hK hDc rfl rfl) rfl rfl hl.1 rfl (lv_room (Nat.le_of_ble_eq_true rfl)) d_L_law_239 ⟨by omega, by omega⟩) hP hD hS hA [0] hn9 hC9 (fun _ => by simp only [List.map_cons, List.map_nil]) (fun _ H locs _ hP hD hS => ?_)
  have hW9 : wk_sets ((lw_W ct hd us op hm qo qa fu au ns n ck n ck th hh a1 a2 a3 a4 a5 a6 a7 a8 a9 b0 b1 b2 b3 b4 b5 b6 b7 b8 b9 b10 og fo ad eu es) : va_W) [0] ([(hm, .inr (4, [.int 0, .long ns.toInt64, .int ck, .long hh, .ref (qa 1), .ref (qa 2), .ref (qa 3), .ref (qa 4), .ref (qa 5), .ref (qa 6), .ref (qa 7), .ref (qa 8), .int (nI n), .ref (qa 9), .ref (qa 10), .ref (qa 11), .ref (qa 12), .ref (qa 13), .ref (qa 14), .ref (qa 15), .ref (qa 16), .ref (qa 17), .ref (qa 18), .ref (qa 19), .ref (qa 20)]))] : va_W) = ((lw_W ct hd us op hm qo qa fu au ns n ck n ck 0 hh a1 a2 a3 a4 a5 a6 a7 a8 a9 b0 b1 b2 b3 b4 b5 b6 b7 b8 b9 b10 og fo ad eu es) : va_W) := (ws_c (ws' := (lw_W ct hd us op hm qo qa fu au ns n ck n ck 0 hh a1 a2 a3 a4 a5 a6 a7 a8 a9 b0 b1 b2 b3 b4 b5 b6 b7 b8 b9 b10 og fo ad eu es)) rfl rfl)
  have hP : va_P G classes (lw_W ct hd us op hm qo qa fu au ns n ck n ck 0 hh a1 a2 a3 a4 a5 a6 a7 a8 a9 b0 b1 b2 b3 b4 b5 b6 b7 b8 b9 b10 og fo ad eu es) H := lp_P hW9 hP
  have hD : va_D A (lw_W ct hd us op hm qo qa fu au ns n ck n ck 0 hh a1 a2 a3 a4 a5 a6 a7 a8 a9 b0 b1 b2 b3 b4 b5 b6 b7 b8 b9 b10 og fo ad eu es) := lp_D hW9 hD
  refine lv_icmp_eq (tgt := 1005) hx hb d_L_law_242 (by decide) (fun h999 => ?_) (fun h999 => ?_)
  · refine W.widen (k := cells + 1) (n := slots + 13) (by omega) (by omega) ?_
    exact kk n ck 0 hh a1 a2 a3 a4 a5 a6 a7 a8 a9 b0 b1 b2 b3 b4 b5 b6 b7 b8 b9 b10 og fo ad eu es H locs _ hnew hP hD hS (lv_sub hl [0, 1, 2, 3, 4] rfl)
  · exact absurd h999 (by decide)
set_option maxHeartbeats 4000000 in
set_option maxRecDepth 100000 in
theorem lq_register0  (C0 : lc_C p l s m meth c b L xs G ct A) (hiv : iv + 7 ≤ L) (hcc : cells + 1 ≤ room_1.cells) (hzz : slots + 13 ≤ room_1.slots)
    (hP : va_P G classes (lw_W ct hd us op hm qo qa fu au ns n ck n ck th hh a1 a2 a3 a4 a5 a6 a7 a8 a9 b0 b1 b2 b3 b4 b5 b6 b7 b8 b9 b10 og fo ad eu es) H) (hD : va_D A (lw_W ct hd us op hm qo qa fu au ns n ck n ck th hh a1 a2 a3 a4 a5 a6 a7 a8 a9 b0 b1 b2 b3 b4 b5 b6 b7 b8 b9 b10 og fo ad eu es)) (hS : va_S A s.heap H locs) (hl : lv_has ls 8 [(4, .int (nI iv)), (3, .ref qo), (2, .ref hm), (1, .ref hd), (0, .ref b)])
    (kk : lc_K p l e s m below meth c b L xs G ct A hd us op hm qo qa fu au ns iv (cells + 1) (slots + 13) Q)
     (d_hno : ¬ us_in (xs (iv + 1))) (m_hno : ¬ (us_in (xs (iv + 1)) ∧ wy_in (xs (iv + 2))))  (hnew : li_R fu au ns n a1 a2 a3 a4 a5 a6 a7 a8 a9 b0 b1 b2 b3 b4 b5 b6 b7 b8 b9 b10 fo ad eu es)  : W p l e room_1 s m #[Value.ref b] below meth c H locs cells slots Q (F0 m 120 ls []) := by
  obtain ⟨hx, hb, hr, hml, hown, hw, hK, hZ, hR, hN, hfl, hA, hbA, hX, hbl, hL, hlocks⟩ := C0
  have hts := hw
  have hP : va_P G classes (lw_W ct hd us op hm qo qa fu au ns n ck n ck th hh a1 a2 a3 a4 a5 a6 a7 a8 a9 b0 b1 b2 b3 b4 b5 b6 b7 b8 b9 b10 og fo ad eu es) H := hP
  have hD : va_D A (lw_W ct hd us op hm qo qa fu au ns n ck n ck th hh a1 a2 a3 a4 a5 a6 a7 a8 a9 b0 b1 b2 b3 b4 b5 b6 b7 b8 b9 b10 og fo ad eu es) := hD
  refine lv_aload_n hx hb d_L_law_120 rfl (lv_at hl 3 rfl) ?_
  refine lv_aload_n hx hb d_L_law_121 rfl (lv_at hl 4 rfl) ?_
  refine lv_iload hx hb d_L_law_122 (lv_at hl 0 rfl) ?_
  refine lv_iconst (v := 1) hx hb d_L_law_124 (by decide) ?_
  refine lv_iadd hx hb d_L_law_125 ?_
  refine sl_ld (j := iv) (d := 1) hx hb hX hbl hbA hS hL (by omega) d_L_law_126 ?_
  refine lv_aload_n hx hb d_L_law_127 rfl (lv_at hl 4 rfl) ?_
  refine lv_iload hx hb d_L_law_128 (lv_at hl 0 rfl) ?_
  refine lv_iconst (v := 2) hx hb d_L_law_130 (by decide) ?_
  refine lv_iadd hx hb d_L_law_131 ?_
  refine sl_ld (j := iv) (d := 2) hx hb hX hbl hbA hS hL (by omega) d_L_law_132 ?_
  refine lv_aload_n hx hb d_L_law_133 rfl (lv_at hl 4 rfl) ?_
  refine lv_iload hx hb d_L_law_134 (lv_at hl 0 rfl) ?_
  refine lv_iconst (v := 3) hx hb d_L_law_136 (by decide) ?_
  refine lv_iadd hx hb d_L_law_137 ?_
  refine sl_ld (j := iv) (d := 3) hx hb hX hbl hbA hS hL (by omega) d_L_law_138 ?_
  refine lv_i2l (v := (xs (iv + 3)).toInt64) hx hb d_L_law_139 rfl ?_
  refine lv_bipush (v := 32) hx hb d_L_law_140 (by decide) ?_
  refine lv_lshl (v := ((xs (iv + 3)).toInt64) <<< ((32 : Int32).toInt64 &&& 63)) hx hb d_L_law_142 rfl ?_
  refine lv_aload_n hx hb d_L_law_143 rfl (lv_at hl 4 rfl) ?_
  refine lv_iload hx hb d_L_law_144 (lv_at hl 0 rfl) ?_
  refine lv_iconst (v := 4) hx hb d_L_law_146 (by decide) ?_
  refine lv_iadd hx hb d_L_law_147 ?_
  refine sl_ld (j := iv) (d := 4) hx hb hX hbl hbA hS hL (by omega) d_L_law_148 ?_
  refine lv_i2l (v := (xs (iv + 4)).toInt64) hx hb d_L_law_149 rfl ?_
  refine lv_ldc2 (v := 4294967295) hx hb hown (hw _ ww_884) d_L_law_150 ?_
  refine lv_land hx hb d_L_law_153 ?_
  refine lv_lor hx hb d_L_law_154 ?_
  refine tp_l (rfl) ?_
  refine lv_aload_n hx hb d_L_law_155 rfl (lv_at hl 4 rfl) ?_
  refine lv_iload hx hb d_L_law_156 (lv_at hl 0 rfl) ?_
  refine lv_iconst (v := 5) hx hb d_L_law_158 (by decide) ?_
  refine lv_iadd hx hb d_L_law_159 ?_
  refine sl_ld (j := iv) (d := 5) hx hb hX hbl hbA hS hL (by omega) d_L_law_160 ?_
  refine lv_i2l (v := (xs (iv + 5)).toInt64) hx hb d_L_law_161 rfl ?_
  refine lv_bipush (v := 32) hx hb d_L_law_162 (by decide) ?_
  refine lv_lshl (v := ((xs (iv + 5)).toInt64) <<< ((32 : Int32).toInt64 &&& 63)) hx hb d_L_law_164 rfl ?_
  refine lv_aload_n hx hb d_L_law_165 rfl (lv_at hl 4 rfl) ?_
  refine lv_iload hx hb d_L_law_166 (lv_at hl 0 rfl) ?_
  refine lv_bipush (v := 6) hx hb d_L_law_168 (by decide) ?_
  refine lv_iadd hx hb d_L_law_170 ?_
  refine sl_ld (j := iv) (d := 6) hx hb hX hbl hbA hS hL (by omega) d_L_law_171 ?_
  refine lv_i2l (v := (xs (iv + 6)).toInt64) hx hb d_L_law_172 rfl ?_
  refine lv_ldc2 (v := 4294967295) hx hb hown (hw _ ww_884) d_L_law_173 ?_
  refine lv_land hx hb d_L_law_176 ?_
  refine lv_lor hx hb d_L_law_177 ?_
  refine tp_l (rfl) ?_
  have hC9 : List.map (fun i => ((lw_W ct hd us op hm qo qa fu au ns n ck n ck th hh a1 a2 a3 a4 a5 a6 a7 a8 a9 b0 b1 b2 b3 b4 b5 b6 b7 b8 b9 b10 og fo ad eu es) : va_W)[i]?) [22] = List.map some ([(hd, .inr (0, [.ref us, .ref op, .int (nI n), .int ck]))] : va_W) := (wc_c rfl rfl)
  have hn9 : va_nd [22] = true := by decide
  have hPc : va_P G classes [(hd, .inr (0, [.ref us, .ref op, .int (nI n), .int ck]))] H := lp_sub hP [22] hC9
  have hDc := hD.sub (ws' := [(hd, .inr (0, [.ref us, .ref op, .int (nI n), .int ck]))]) [22] hn9 hC9
  refine vp_callSi (W.runV (As := [.int (xs (iv + 1)), .int (xs (iv + 2)), .long (lj (xs (iv + 3)) (xs (iv + 4))), .long (lj (xs (iv + 5)) (xs (iv + 6)))]) (rest := []) ⟨hx, hb, hml, hown, hts⟩ (c_D_register0 l G ct H.size hd us op n ck (xs (iv + 1)) (xs (iv + 2)) (lj (xs (iv + 3)) (xs (iv + 4))) (lj (xs (iv + 5)) (xs (iv + 6))) d_hno) (tb_V hw cy_D_register ww_81 ww_82 ww_83 rfl rfl ⟨Nat.le_of_ble_eq_true rfl, Nat.le_of_ble_eq_true rfl⟩) (wk_preV (ci := 0) (q0 := 0) hPc hK hDc rfl rfl) rfl rfl hl.1 rfl (lv_room (Nat.le_of_ble_eq_true rfl)) d_L_law_178 ⟨by omega, by omega⟩) (fun r1000 er1000 => ?_)
  rw [er1000]
  refine lv_aload_n hx hb d_L_law_181 rfl (lv_at hl 2 rfl) ?_
  refine lv_aload_n hx hb d_L_law_182 rfl (lv_at hl 4 rfl) ?_
  refine lv_iload hx hb d_L_law_183 (lv_at hl 0 rfl) ?_
  refine lv_iconst (v := 1) hx hb d_L_law_185 (by decide) ?_
  refine lv_iadd hx hb d_L_law_186 ?_
  refine sl_ld (j := iv) (d := 1) hx hb hX hbl hbA hS hL (by omega) d_L_law_187 ?_
  refine lv_aload_n hx hb d_L_law_188 rfl (lv_at hl 4 rfl) ?_
  refine lv_iload hx hb d_L_law_189 (lv_at hl 0 rfl) ?_
  refine lv_iconst (v := 2) hx hb d_L_law_191 (by decide) ?_
  refine lv_iadd hx hb d_L_law_192 ?_
  refine sl_ld (j := iv) (d := 2) hx hb hX hbl hbA hS hL (by omega) d_L_law_193 ?_
  refine lv_aload_n hx hb d_L_law_194 rfl (lv_at hl 4 rfl) ?_
  refine lv_iload hx hb d_L_law_195 (lv_at hl 0 rfl) ?_
  refine lv_iconst (v := 3) hx hb d_L_law_197 (by decide) ?_
  refine lv_iadd hx hb d_L_law_198 ?_
  refine sl_ld (j := iv) (d := 3) hx hb hX hbl hbA hS hL (by omega) d_L_law_199 ?_
  refine lv_i2l (v := (xs (iv + 3)).toInt64) hx hb d_L_law_200 rfl ?_
  refine lv_bipush (v := 32) hx hb d_L_law_201 (by decide) ?_
  refine lv_lshl (v := ((xs (iv + 3)).toInt64) <<< ((32 : Int32).toInt64 &&& 63)) hx hb d_L_law_203 rfl ?_
  refine lv_aload_n hx hb d_L_law_204 rfl (lv_at hl 4 rfl) ?_
  refine lv_iload hx hb d_L_law_205 (lv_at hl 0 rfl) ?_
  refine lv_iconst (v := 4) hx hb d_L_law_207 (by decide) ?_
  refine lv_iadd hx hb d_L_law_208 ?_
  refine sl_ld (j := iv) (d := 4) hx hb hX hbl hbA hS hL (by omega) d_L_law_209 ?_
  refine lv_i2l (v := (xs (iv + 4)).toInt64) hx hb d_L_law_210 rfl ?_
  refine lv_ldc2 (v := 4294967295) hx hb hown (hw _ ww_884) d_L_law_211 ?_
  refine lv_land hx hb d_L_law_214 ?_
  refine lv_lor hx hb d_L_law_215 ?_
  refine tp_l (rfl) ?_
  refine lv_aload_n hx hb d_L_law_216 rfl (lv_at hl 4 rfl) ?_
  refine lv_iload hx hb d_L_law_217 (lv_at hl 0 rfl) ?_
  refine lv_iconst (v := 5) hx hb d_L_law_219 (by decide) ?_
  refine lv_iadd hx hb d_L_law_220 ?_
  refine sl_ld (j := iv) (d := 5) hx hb hX hbl hbA hS hL (by omega) d_L_law_221 ?_
  refine lv_i2l (v := (xs (iv + 5)).toInt64) hx hb d_L_law_222 rfl ?_
  refine lv_bipush (v := 32) hx hb d_L_law_223 (by decide) ?_
  refine lv_lshl (v := ((xs (iv + 5)).toInt64) <<< ((32 : Int32).toInt64 &&& 63)) hx hb d_L_law_225 rfl ?_
  refine lv_aload_n hx hb d_L_law_226 rfl (lv_at hl 4 rfl) ?_
  refine lv_iload hx hb d_L_law_227 (lv_at hl 0 rfl) ?_
  refine lv_bipush (v := 6) hx hb d_L_law_229 (by decide) ?_
  refine lv_iadd hx hb d_L_law_231 ?_
  refine sl_ld (j := iv) (d := 6) hx hb hX hbl hbA hS hL (by omega) d_L_law_232 ?_
  refine lv_i2l (v := (xs (iv + 6)).toInt64) hx hb d_L_law_233 rfl ?_
  refine lv_ldc2 (v := 4294967295) hx hb hown (hw _ ww_884) d_L_law_234 ?_
  refine lv_land hx hb d_L_law_237 ?_
  refine lv_lor hx hb d_L_law_238 ?_
  refine tp_l (rfl) ?_
  have hC9 : List.map (fun i => ((lw_W ct hd us op hm qo qa fu au ns n ck n ck th hh a1 a2 a3 a4 a5 a6 a7 a8 a9 b0 b1 b2 b3 b4 b5 b6 b7 b8 b9 b10 og fo ad eu es) : va_W)[i]?) [0] = List.map some ([(hm, .inr (4, [.int th, .long ns.toInt64, .int ck, .long hh, .ref (qa 1), .ref (qa 2), .ref (qa 3), .ref (qa 4), .ref (qa 5), .ref (qa 6), .ref (qa 7), .ref (qa 8), .int (nI n), .ref (qa 9), .ref (qa 10), .ref (qa 11), .ref (qa 12), .ref (qa 13), .ref (qa 14), .ref (qa 15), .ref (qa 16), .ref (qa 17), .ref (qa 18), .ref (qa 19), .ref (qa 20)]))] : va_W) := (wc_c rfl rfl)
  have hn9 : va_nd [0] = true := by decide
  have hPc : va_P G classes [(hm, .inr (4, [.int th, .long ns.toInt64, .int ck, .long hh, .ref (qa 1), .ref (qa 2), .ref (qa 3), .ref (qa 4), .ref (qa 5), .ref (qa 6), .ref (qa 7), .ref (qa 8), .int (nI n), .ref (qa 9), .ref (qa 10), .ref (qa 11), .ref (qa 12), .ref (qa 13), .ref (qa 14), .ref (qa 15), .ref (qa 16), .ref (qa 17), .ref (qa 18), .ref (qa 19), .ref (qa 20)]))] H := lp_sub hP [0] hC9
  have hDc := hD.sub (ws' := [(hm, .inr (4, [.int th, .long ns.toInt64, .int ck, .long hh, .ref (qa 1), .ref (qa 2), .ref (qa 3), .ref (qa 4), .ref (qa 5), .ref (qa 6), .ref (qa 7), .ref (qa 8), .int (nI n), .ref (qa 9), .ref (qa 10), .ref (qa 11), .ref (qa 12), .ref (qa 13), .ref (qa 14), .ref (qa 15), .ref (qa 16), .ref (qa 17), .ref (qa 18), .ref (qa 19), .ref (qa 20)]))]) [0] hn9 hC9
  refine wk_i (va_runV (As := [.int (xs (iv + 1)), .int (xs (iv + 2)), .long (lj (xs (iv + 3)) (xs (iv + 4))), .long (lj (xs (iv + 5)) (xs (iv + 6)))]) (rest := [.int 0]) ⟨hx, hb, hml, hown, hts⟩ (c_M_register0 l G ct H.size hm th ns.toInt64 ck hh (qa 1) (qa 2) (qa 3) (qa 4) (qa 5) (qa 6) (qa 7) (qa 8) (qa 9) (qa 10) (qa 11) (qa 12) (qa 13) (qa 14) (qa 15) (qa 16) (qa 17) (qa 18) (qa 19) (qa 20) n (xs (iv + 1)) (xs (iv + 2)) (lj (xs (iv + 3)) (xs (iv + 4))) (lj (xs (iv + 5)) (xs (iv + 6))) m_hno) (tb_V hw cy_M_register ww_723 ww_724 ww_725 rfl rfl ⟨Nat.le_of_ble_eq_true rfl, Nat.le_of_ble_eq_true rfl⟩) (wk_preV (ci := 4) (q0 := 0) hPc hK hDc rfl rfl) rfl rfl hl.1 rfl (lv_room (Nat.le_of_ble_eq_true rfl)) d_L_law_239 ⟨by omega, by omega⟩) hP hD hS hA [0] hn9 hC9 (fun _ => by simp only [List.map_cons, List.map_nil]) (fun _ H locs _ hP hD hS => ?_)
  have hW9 : wk_sets ((lw_W ct hd us op hm qo qa fu au ns n ck n ck th hh a1 a2 a3 a4 a5 a6 a7 a8 a9 b0 b1 b2 b3 b4 b5 b6 b7 b8 b9 b10 og fo ad eu es) : va_W) [0] ([(hm, .inr (4, [.int 0, .long ns.toInt64, .int ck, .long hh, .ref (qa 1), .ref (qa 2), .ref (qa 3), .ref (qa 4), .ref (qa 5), .ref (qa 6), .ref (qa 7), .ref (qa 8), .int (nI n), .ref (qa 9), .ref (qa 10), .ref (qa 11), .ref (qa 12), .ref (qa 13), .ref (qa 14), .ref (qa 15), .ref (qa 16), .ref (qa 17), .ref (qa 18), .ref (qa 19), .ref (qa 20)]))] : va_W) = ((lw_W ct hd us op hm qo qa fu au ns n ck n ck 0 hh a1 a2 a3 a4 a5 a6 a7 a8 a9 b0 b1 b2 b3 b4 b5 b6 b7 b8 b9 b10 og fo ad eu es) : va_W) := (ws_c (ws' := (lw_W ct hd us op hm qo qa fu au ns n ck n ck 0 hh a1 a2 a3 a4 a5 a6 a7 a8 a9 b0 b1 b2 b3 b4 b5 b6 b7 b8 b9 b10 og fo ad eu es)) rfl rfl)
  have hP : va_P G classes (lw_W ct hd us op hm qo qa fu au ns n ck n ck 0 hh a1 a2 a3 a4 a5 a6 a7 a8 a9 b0 b1 b2 b3 b4 b5 b6 b7 b8 b9 b10 og fo ad eu es) H := lp_P hW9 hP
  have hD : va_D A (lw_W ct hd us op hm qo qa fu au ns n ck n ck 0 hh a1 a2 a3 a4 a5 a6 a7 a8 a9 b0 b1 b2 b3 b4 b5 b6 b7 b8 b9 b10 og fo ad eu es) := lp_D hW9 hD
  refine lv_icmp_eq (tgt := 1005) hx hb d_L_law_242 (by decide) (fun h1001 => ?_) (fun h1001 => ?_)
  · refine W.widen (k := cells + 1) (n := slots + 13) (by omega) (by omega) ?_
    exact kk n ck 0 hh a1 a2 a3 a4 a5 a6 a7 a8 a9 b0 b1 b2 b3 b4 b5 b6 b7 b8 b9 b10 og fo ad eu es H locs _ hnew hP hD hS (lv_sub hl [0, 1, 2, 3, 4] rfl)
  · exact absurd h1001 (by decide)
set_option maxHeartbeats 4000000 in
set_option maxRecDepth 100000 in
theorem lq_forget1 {k : Nat} {uo : Nat} {ul : Int64} {uv : Nat} (C0 : lc_C p l s m meth c b L xs G ct A) (hiv : iv + 7 ≤ L) (hcc : cells + 1 ≤ room_1.cells) (hzz : slots + 13 ≤ room_1.slots)
    (hP : va_P G classes (lw_W ct hd us op hm qo qa fu au ns n ck n ck th hh a1 a2 a3 a4 a5 a6 a7 a8 a9 b0 b1 b2 b3 b4 b5 b6 b7 b8 b9 b10 og fo ad eu es) H) (hD : va_D A (lw_W ct hd us op hm qo qa fu au ns n ck n ck th hh a1 a2 a3 a4 a5 a6 a7 a8 a9 b0 b1 b2 b3 b4 b5 b6 b7 b8 b9 b10 og fo ad eu es)) (hS : va_S A s.heap H locs) (hl : lv_has ls 8 [(4, .int (nI iv)), (3, .ref qo), (2, .ref hm), (1, .ref hd), (0, .ref b)])
    (kk : lc_K p l e s m below meth c b L xs G ct A hd us op hm qo qa fu au ns iv (cells + 1) (slots + 13) Q)
    (hv1 : xs (iv + 1) = nI k) (hk8 : k < 8) (heu : eu k = .inr (1, [.int (nI k), .int ns, .int (a1 k), .long (lN uo), .long ul, .long (lN uv), .int (a5 k), .int (a6 k), .int (a7 k), .int (a8 k)])) (d_hk : k < 8) (d_hfu : fu k = some (au k)) (d_hw1 : ¬ (a1 k) = -1) (m_hk : k < 8) (m_hge : 0 ≤ a1 k)  (hnew : li_R fu au ns n (upd a1 k (-1)) a2 a3 a4 a5 a6 a7 a8 a9 b0 b1 b2 b3 b4 b5 b6 b7 b8 b9 b10 fo ad (va_up eu k (.inr (1, [.int (nI k), .int ns, .int (-1), .long (lN uo), .long ul, .long (lN uv), .int (a5 k), .int (a6 k), .int (a7 k), .int (a8 k)]))) es)  : W p l e room_1 s m #[Value.ref b] below meth c H locs cells slots Q (F0 m 247 ls []) := by
  obtain ⟨hx, hb, hr, hml, hown, hw, hK, hZ, hR, hN, hfl, hA, hbA, hX, hbl, hL, hlocks⟩ := C0
  have hts := hw
  have hP : va_P G classes (lw_W ct hd us op hm qo qa fu au ns n ck n ck th hh a1 a2 a3 a4 a5 a6 a7 a8 a9 b0 b1 b2 b3 b4 b5 b6 b7 b8 b9 b10 og fo ad eu es) H := hP
  have hD : va_D A (lw_W ct hd us op hm qo qa fu au ns n ck n ck th hh a1 a2 a3 a4 a5 a6 a7 a8 a9 b0 b1 b2 b3 b4 b5 b6 b7 b8 b9 b10 og fo ad eu es) := hD
  refine lv_aload_n hx hb d_L_law_247 rfl (lv_at hl 3 rfl) ?_
  refine lv_aload_n hx hb d_L_law_248 rfl (lv_at hl 4 rfl) ?_
  refine lv_iload hx hb d_L_law_249 (lv_at hl 0 rfl) ?_
  refine lv_iconst (v := 1) hx hb d_L_law_251 (by decide) ?_
  refine lv_iadd hx hb d_L_law_252 ?_
  refine sl_ld (j := iv) (d := 1) hx hb hX hbl hbA hS hL (by omega) d_L_law_253 ?_
  refine tp_i (hv1) ?_
  have hC9 : List.map (fun i => ((lw_W ct hd us op hm qo qa fu au ns n ck n ck th hh a1 a2 a3 a4 a5 a6 a7 a8 a9 b0 b1 b2 b3 b4 b5 b6 b7 b8 b9 b10 og fo ad eu es) : va_W)[i]?) [22, 23, 25 + k] = List.map some ([(hd, .inr (0, [.ref us, .ref op, .int (nI n), .int ck])), (us, .inl ((ct 3), 8, .inr (.inr (.inr (.inr fu))))), ((au k), .inr (1, [.int (nI k), .int ns, .int (a1 k), .long (lN uo), .long ul, .long (lN uv), .int (a5 k), .int (a6 k), .int (a7 k), .int (a8 k)]))] : va_W) := (wc_c rfl (wc_c rfl (wc_c (lw_u rfl hk8 heu) rfl)))
  have hn9 : va_nd [22, 23, 25 + k] = true := (nd_c (by simp only [List.mem_cons, List.not_mem_nil, or_false]; omega) (nd_c (by simp only [List.mem_cons, List.not_mem_nil, or_false]; omega) (nd_c List.not_mem_nil rfl)))
  have hPc : va_P G classes [(hd, .inr (0, [.ref us, .ref op, .int (nI n), .int ck])), (us, .inl ((ct 3), 8, .inr (.inr (.inr (.inr fu))))), ((au k), .inr (1, [.int (nI k), .int ns, .int (a1 k), .long (lN uo), .long ul, .long (lN uv), .int (a5 k), .int (a6 k), .int (a7 k), .int (a8 k)]))] H := lp_sub hP [22, 23, 25 + k] hC9
  have hDc := hD.sub (ws' := [(hd, .inr (0, [.ref us, .ref op, .int (nI n), .int ck])), (us, .inl ((ct 3), 8, .inr (.inr (.inr (.inr fu))))), ((au k), .inr (1, [.int (nI k), .int ns, .int (a1 k), .long (lN uo), .long ul, .long (lN uv), .int (a5 k), .int (a6 k), .int (a7 k), .int (a8 k)]))]) [22, 23, 25 + k] hn9 hC9
  have hW9 : wk_sets ((lw_W ct hd us op hm qo qa fu au ns n ck n ck th hh a1 a2 a3 a4 a5 a6 a7 a8 a9 b0 b1 b2 b3 b4 b5 b6 b7 b8 b9 b10 og fo ad eu es) : va_W) [22, 23, 25 + k] ([(hd, .inr (0, [.ref us, .ref op, .int (nI n), .int ck])), (us, .inl ((ct 3), 8, .inr (.inr (.inr (.inr fu))))), ((au k), .inr (1, [.int (nI k), .int ns, .int (-1), .long (lN uo), .long ul, .long (lN uv), .int (a5 k), .int (a6 k), .int (a7 k), .int (a8 k)]))] : va_W) = ((lw_W ct hd us op hm qo qa fu au ns n ck n ck th hh a1 a2 a3 a4 a5 a6 a7 a8 a9 b0 b1 b2 b3 b4 b5 b6 b7 b8 b9 b10 og fo ad (va_up eu k (.inr (1, [.int (nI k), .int ns, .int (-1), .long (lN uo), .long ul, .long (lN uv), .int (a5 k), .int (a6 k), .int (a7 k), .int (a8 k)]))) es) : va_W) := (ws_k rfl (ws_k rfl (ws_c (lw_su rfl hk8) rfl)))
  refine wk_i (va_runV (As := [.int (nI k)]) (rest := []) ⟨hx, hb, hml, hown, hts⟩ (c_D_forget1 l G ct H.size hd us op n ck fu (au k) k (nI k) ns (a1 k) uo ul uv (a5 k) (a6 k) (a7 k) (a8 k) d_hk d_hfu d_hw1) (tb_V hw cy_D_forget ww_130 ww_131 ww_132 rfl rfl ⟨Nat.le_of_ble_eq_true rfl, Nat.le_of_ble_eq_true rfl⟩) (wk_preV (ci := 0) (q0 := 0) hPc hK hDc rfl rfl) rfl rfl hl.1 rfl (lv_room (Nat.le_of_ble_eq_true rfl)) d_L_law_254 ⟨by omega, by omega⟩) hP hD hS hA [22, 23, 25 + k] hn9 hC9 (fun _ => by simp only [List.map_cons, List.map_nil]) (fun _ H locs _ hP hD hS => ?_)
  have hP : va_P G classes (lw_W ct hd us op hm qo qa fu au ns n ck n ck th hh a1 a2 a3 a4 a5 a6 a7 a8 a9 b0 b1 b2 b3 b4 b5 b6 b7 b8 b9 b10 og fo ad (va_up eu k (.inr (1, [.int (nI k), .int ns, .int (-1), .long (lN uo), .long ul, .long (lN uv), .int (a5 k), .int (a6 k), .int (a7 k), .int (a8 k)]))) es) H := lp_P hW9 hP
  have hD : va_D A (lw_W ct hd us op hm qo qa fu au ns n ck n ck th hh a1 a2 a3 a4 a5 a6 a7 a8 a9 b0 b1 b2 b3 b4 b5 b6 b7 b8 b9 b10 og fo ad (va_up eu k (.inr (1, [.int (nI k), .int ns, .int (-1), .long (lN uo), .long ul, .long (lN uv), .int (a5 k), .int (a6 k), .int (a7 k), .int (a8 k)]))) es) := lp_D hW9 hD
  refine lv_aload_n hx hb d_L_law_257 rfl (lv_at hl 2 rfl) ?_
  refine lv_aload_n hx hb d_L_law_258 rfl (lv_at hl 4 rfl) ?_
  refine lv_iload hx hb d_L_law_259 (lv_at hl 0 rfl) ?_
  refine lv_iconst (v := 1) hx hb d_L_law_261 (by decide) ?_
  refine lv_iadd hx hb d_L_law_262 ?_
  refine sl_ld (j := iv) (d := 1) hx hb hX hbl hbA hS hL (by omega) d_L_law_263 ?_
  refine tp_i (hv1) ?_
  have hC9 : List.map (fun i => ((lw_W ct hd us op hm qo qa fu au ns n ck n ck th hh a1 a2 a3 a4 a5 a6 a7 a8 a9 b0 b1 b2 b3 b4 b5 b6 b7 b8 b9 b10 og fo ad (va_up eu k (.inr (1, [.int (nI k), .int ns, .int (-1), .long (lN uo), .long ul, .long (lN uv), .int (a5 k), .int (a6 k), .int (a7 k), .int (a8 k)]))) es) : va_W)[i]?) [0, 1] = List.map some ([(hm, .inr (4, [.int th, .long ns.toInt64, .int ck, .long hh, .ref (qa 1), .ref (qa 2), .ref (qa 3), .ref (qa 4), .ref (qa 5), .ref (qa 6), .ref (qa 7), .ref (qa 8), .int (nI n), .ref (qa 9), .ref (qa 10), .ref (qa 11), .ref (qa 12), .ref (qa 13), .ref (qa 14), .ref (qa 15), .ref (qa 16), .ref (qa 17), .ref (qa 18), .ref (qa 19), .ref (qa 20)])), ((qa 1), .inl ((ct 0), 8, .inl a1))] : va_W) := (wc_c rfl (wc_c rfl rfl))
  have hn9 : va_nd [0, 1] = true := by decide
  have hPc : va_P G classes [(hm, .inr (4, [.int th, .long ns.toInt64, .int ck, .long hh, .ref (qa 1), .ref (qa 2), .ref (qa 3), .ref (qa 4), .ref (qa 5), .ref (qa 6), .ref (qa 7), .ref (qa 8), .int (nI n), .ref (qa 9), .ref (qa 10), .ref (qa 11), .ref (qa 12), .ref (qa 13), .ref (qa 14), .ref (qa 15), .ref (qa 16), .ref (qa 17), .ref (qa 18), .ref (qa 19), .ref (qa 20)])), ((qa 1), .inl ((ct 0), 8, .inl a1))] H := lp_sub hP [0, 1] hC9
  have hDc := hD.sub (ws' := [(hm, .inr (4, [.int th, .long ns.toInt64, .int ck, .long hh, .ref (qa 1), .ref (qa 2), .ref (qa 3), .ref (qa 4), .ref (qa 5), .ref (qa 6), .ref (qa 7), .ref (qa 8), .int (nI n), .ref (qa 9), .ref (qa 10), .ref (qa 11), .ref (qa 12), .ref (qa 13), .ref (qa 14), .ref (qa 15), .ref (qa 16), .ref (qa 17), .ref (qa 18), .ref (qa 19), .ref (qa 20)])), ((qa 1), .inl ((ct 0), 8, .inl a1))]) [0, 1] hn9 hC9
  refine wk_i (va_runV (As := [.int (nI k)]) (rest := [.int 1]) ⟨hx, hb, hml, hown, hts⟩ (c_M_forget1 l G ct H.size hm th ns.toInt64 ck hh (qa 1) (qa 2) (qa 3) (qa 4) (qa 5) (qa 6) (qa 7) (qa 8) (qa 9) (qa 10) (qa 11) (qa 12) (qa 13) (qa 14) (qa 15) (qa 16) (qa 17) (qa 18) (qa 19) (qa 20) n a1 k m_hk m_hge) (tb_V hw cy_M_forget ww_767 ww_768 ww_769 rfl rfl ⟨Nat.le_of_ble_eq_true rfl, Nat.le_of_ble_eq_true rfl⟩) (wk_preV (ci := 4) (q0 := 0) hPc hK hDc rfl rfl) rfl rfl hl.1 rfl (lv_room (Nat.le_of_ble_eq_true rfl)) d_L_law_264 ⟨by omega, by omega⟩) hP hD hS hA [0, 1] hn9 hC9 (fun _ => by simp only [List.map_cons, List.map_nil]) (fun _ H locs _ hP hD hS => ?_)
  have hW9 : wk_sets ((lw_W ct hd us op hm qo qa fu au ns n ck n ck th hh a1 a2 a3 a4 a5 a6 a7 a8 a9 b0 b1 b2 b3 b4 b5 b6 b7 b8 b9 b10 og fo ad (va_up eu k (.inr (1, [.int (nI k), .int ns, .int (-1), .long (lN uo), .long ul, .long (lN uv), .int (a5 k), .int (a6 k), .int (a7 k), .int (a8 k)]))) es) : va_W) [0, 1] ([(hm, .inr (4, [.int 0, .long ns.toInt64, .int ck, .long hh, .ref (qa 1), .ref (qa 2), .ref (qa 3), .ref (qa 4), .ref (qa 5), .ref (qa 6), .ref (qa 7), .ref (qa 8), .int (nI n), .ref (qa 9), .ref (qa 10), .ref (qa 11), .ref (qa 12), .ref (qa 13), .ref (qa 14), .ref (qa 15), .ref (qa 16), .ref (qa 17), .ref (qa 18), .ref (qa 19), .ref (qa 20)])), ((qa 1), .inl ((ct 0), 8, .inl (upd a1 k (-1))))] : va_W) = ((lw_W ct hd us op hm qo qa fu au ns n ck n ck 0 hh (upd a1 k (-1)) a2 a3 a4 a5 a6 a7 a8 a9 b0 b1 b2 b3 b4 b5 b6 b7 b8 b9 b10 og fo ad (va_up eu k (.inr (1, [.int (nI k), .int ns, .int (-1), .long (lN uo), .long ul, .long (lN uv), .int (a5 k), .int (a6 k), .int (a7 k), .int (a8 k)]))) es) : va_W) := (ws_c (ws' := (lw_W ct hd us op hm qo qa fu au ns n ck n ck 0 hh a1 a2 a3 a4 a5 a6 a7 a8 a9 b0 b1 b2 b3 b4 b5 b6 b7 b8 b9 b10 og fo ad (va_up eu k (.inr (1, [.int (nI k), .int ns, .int (-1), .long (lN uo), .long ul, .long (lN uv), .int (a5 k), .int (a6 k), .int (a7 k), .int (a8 k)]))) es)) rfl (ws_c (ws' := (lw_W ct hd us op hm qo qa fu au ns n ck n ck 0 hh (upd a1 k (-1)) a2 a3 a4 a5 a6 a7 a8 a9 b0 b1 b2 b3 b4 b5 b6 b7 b8 b9 b10 og fo ad (va_up eu k (.inr (1, [.int (nI k), .int ns, .int (-1), .long (lN uo), .long ul, .long (lN uv), .int (a5 k), .int (a6 k), .int (a7 k), .int (a8 k)]))) es)) rfl rfl))
  have hP : va_P G classes (lw_W ct hd us op hm qo qa fu au ns n ck n ck 0 hh (upd a1 k (-1)) a2 a3 a4 a5 a6 a7 a8 a9 b0 b1 b2 b3 b4 b5 b6 b7 b8 b9 b10 og fo ad (va_up eu k (.inr (1, [.int (nI k), .int ns, .int (-1), .long (lN uo), .long ul, .long (lN uv), .int (a5 k), .int (a6 k), .int (a7 k), .int (a8 k)]))) es) H := lp_P hW9 hP
  have hD : va_D A (lw_W ct hd us op hm qo qa fu au ns n ck n ck 0 hh (upd a1 k (-1)) a2 a3 a4 a5 a6 a7 a8 a9 b0 b1 b2 b3 b4 b5 b6 b7 b8 b9 b10 og fo ad (va_up eu k (.inr (1, [.int (nI k), .int ns, .int (-1), .long (lN uo), .long ul, .long (lN uv), .int (a5 k), .int (a6 k), .int (a7 k), .int (a8 k)]))) es) := lp_D hW9 hD
  refine lv_icmp_eq (tgt := 1005) hx hb d_L_law_267 (by decide) (fun h1002 => ?_) (fun h1002 => ?_)
  · refine W.widen (k := cells + 1) (n := slots + 13) (by omega) (by omega) ?_
    exact kk n ck 0 hh (upd a1 k (-1)) a2 a3 a4 a5 a6 a7 a8 a9 b0 b1 b2 b3 b4 b5 b6 b7 b8 b9 b10 og fo ad (va_up eu k (.inr (1, [.int (nI k), .int ns, .int (-1), .long (lN uo), .long ul, .long (lN uv), .int (a5 k), .int (a6 k), .int (a7 k), .int (a8 k)]))) es H locs _ hnew hP hD hS (lv_sub hl [0, 1, 2, 3, 4] rfl)
  · exact absurd h1002 (by decide)
set_option maxHeartbeats 4000000 in
set_option maxRecDepth 100000 in
theorem lq_forget2 {k : Nat} {uo : Nat} {ul : Int64} {uv : Nat} (C0 : lc_C p l s m meth c b L xs G ct A) (hiv : iv + 7 ≤ L) (hcc : cells + 1 ≤ room_1.cells) (hzz : slots + 13 ≤ room_1.slots)
    (hP : va_P G classes (lw_W ct hd us op hm qo qa fu au ns n ck n ck th hh a1 a2 a3 a4 a5 a6 a7 a8 a9 b0 b1 b2 b3 b4 b5 b6 b7 b8 b9 b10 og fo ad eu es) H) (hD : va_D A (lw_W ct hd us op hm qo qa fu au ns n ck n ck th hh a1 a2 a3 a4 a5 a6 a7 a8 a9 b0 b1 b2 b3 b4 b5 b6 b7 b8 b9 b10 og fo ad eu es)) (hS : va_S A s.heap H locs) (hl : lv_has ls 8 [(4, .int (nI iv)), (3, .ref qo), (2, .ref hm), (1, .ref hd), (0, .ref b)])
    (kk : lc_K p l e s m below meth c b L xs G ct A hd us op hm qo qa fu au ns iv (cells + 1) (slots + 13) Q)
    (hv1 : xs (iv + 1) = nI k) (hk8 : k < 8) (heu : eu k = .inr (1, [.int (nI k), .int ns, .int (a1 k), .long (lN uo), .long ul, .long (lN uv), .int (a5 k), .int (a6 k), .int (a7 k), .int (a8 k)])) (d_hk : k < 8) (d_hfu : fu k = some (au k)) (d_hw1 : (a1 k) = -1) (m_hk : k < 8) (m_hge : ¬ 0 ≤ a1 k)  (hnew : li_R fu au ns n a1 a2 a3 a4 a5 a6 a7 a8 a9 b0 b1 b2 b3 b4 b5 b6 b7 b8 b9 b10 fo ad eu es)  : W p l e room_1 s m #[Value.ref b] below meth c H locs cells slots Q (F0 m 247 ls []) := by
  obtain ⟨hx, hb, hr, hml, hown, hw, hK, hZ, hR, hN, hfl, hA, hbA, hX, hbl, hL, hlocks⟩ := C0
  have hts := hw
  have hP : va_P G classes (lw_W ct hd us op hm qo qa fu au ns n ck n ck th hh a1 a2 a3 a4 a5 a6 a7 a8 a9 b0 b1 b2 b3 b4 b5 b6 b7 b8 b9 b10 og fo ad eu es) H := hP
  have hD : va_D A (lw_W ct hd us op hm qo qa fu au ns n ck n ck th hh a1 a2 a3 a4 a5 a6 a7 a8 a9 b0 b1 b2 b3 b4 b5 b6 b7 b8 b9 b10 og fo ad eu es) := hD
  refine lv_aload_n hx hb d_L_law_247 rfl (lv_at hl 3 rfl) ?_
  refine lv_aload_n hx hb d_L_law_248 rfl (lv_at hl 4 rfl) ?_
  refine lv_iload hx hb d_L_law_249 (lv_at hl 0 rfl) ?_
  refine lv_iconst (v := 1) hx hb d_L_law_251 (by decide) ?_
  refine lv_iadd hx hb d_L_law_252 ?_
  refine sl_ld (j := iv) (d := 1) hx hb hX hbl hbA hS hL (by omega) d_L_law_253 ?_
  refine tp_i (hv1) ?_
  have hC9 : List.map (fun i => ((lw_W ct hd us op hm qo qa fu au ns n ck n ck th hh a1 a2 a3 a4 a5 a6 a7 a8 a9 b0 b1 b2 b3 b4 b5 b6 b7 b8 b9 b10 og fo ad eu es) : va_W)[i]?) [22, 23, 25 + k] = List.map some ([(hd, .inr (0, [.ref us, .ref op, .int (nI n), .int ck])), (us, .inl ((ct 3), 8, .inr (.inr (.inr (.inr fu))))), ((au k), .inr (1, [.int (nI k), .int ns, .int (a1 k), .long (lN uo), .long ul, .long (lN uv), .int (a5 k), .int (a6 k), .int (a7 k), .int (a8 k)]))] : va_W) := (wc_c rfl (wc_c rfl (wc_c (lw_u rfl hk8 heu) rfl)))
  have hn9 : va_nd [22, 23, 25 + k] = true := (nd_c (by simp only [List.mem_cons, List.not_mem_nil, or_false]; omega) (nd_c (by simp only [List.mem_cons, List.not_mem_nil, or_false]; omega) (nd_c List.not_mem_nil rfl)))
  have hPc : va_P G classes [(hd, .inr (0, [.ref us, .ref op, .int (nI n), .int ck])), (us, .inl ((ct 3), 8, .inr (.inr (.inr (.inr fu))))), ((au k), .inr (1, [.int (nI k), .int ns, .int (a1 k), .long (lN uo), .long ul, .long (lN uv), .int (a5 k), .int (a6 k), .int (a7 k), .int (a8 k)]))] H := lp_sub hP [22, 23, 25 + k] hC9
  have hDc := hD.sub (ws' := [(hd, .inr (0, [.ref us, .ref op, .int (nI n), .int ck])), (us, .inl ((ct 3), 8, .inr (.inr (.inr (.inr fu))))), ((au k), .inr (1, [.int (nI k), .int ns, .int (a1 k), .long (lN uo), .long ul, .long (lN uv), .int (a5 k), .int (a6 k), .int (a7 k), .int (a8 k)]))]) [22, 23, 25 + k] hn9 hC9
  refine vp_callSi (W.runV (As := [.int (nI k)]) (rest := []) ⟨hx, hb, hml, hown, hts⟩ (c_D_forget2 l G ct H.size hd us op n ck fu (au k) k (nI k) ns (a1 k) uo ul uv (a5 k) (a6 k) (a7 k) (a8 k) d_hk d_hfu d_hw1) (tb_V hw cy_D_forget ww_130 ww_131 ww_132 rfl rfl ⟨Nat.le_of_ble_eq_true rfl, Nat.le_of_ble_eq_true rfl⟩) (wk_preV (ci := 0) (q0 := 0) hPc hK hDc rfl rfl) rfl rfl hl.1 rfl (lv_room (Nat.le_of_ble_eq_true rfl)) d_L_law_254 ⟨by omega, by omega⟩) (fun r1003 er1003 => ?_)
  rw [er1003]
  refine lv_aload_n hx hb d_L_law_257 rfl (lv_at hl 2 rfl) ?_
  refine lv_aload_n hx hb d_L_law_258 rfl (lv_at hl 4 rfl) ?_
  refine lv_iload hx hb d_L_law_259 (lv_at hl 0 rfl) ?_
  refine lv_iconst (v := 1) hx hb d_L_law_261 (by decide) ?_
  refine lv_iadd hx hb d_L_law_262 ?_
  refine sl_ld (j := iv) (d := 1) hx hb hX hbl hbA hS hL (by omega) d_L_law_263 ?_
  refine tp_i (hv1) ?_
  have hC9 : List.map (fun i => ((lw_W ct hd us op hm qo qa fu au ns n ck n ck th hh a1 a2 a3 a4 a5 a6 a7 a8 a9 b0 b1 b2 b3 b4 b5 b6 b7 b8 b9 b10 og fo ad eu es) : va_W)[i]?) [0, 1] = List.map some ([(hm, .inr (4, [.int th, .long ns.toInt64, .int ck, .long hh, .ref (qa 1), .ref (qa 2), .ref (qa 3), .ref (qa 4), .ref (qa 5), .ref (qa 6), .ref (qa 7), .ref (qa 8), .int (nI n), .ref (qa 9), .ref (qa 10), .ref (qa 11), .ref (qa 12), .ref (qa 13), .ref (qa 14), .ref (qa 15), .ref (qa 16), .ref (qa 17), .ref (qa 18), .ref (qa 19), .ref (qa 20)])), ((qa 1), .inl ((ct 0), 8, .inl a1))] : va_W) := (wc_c rfl (wc_c rfl rfl))
  have hn9 : va_nd [0, 1] = true := by decide
  have hPc : va_P G classes [(hm, .inr (4, [.int th, .long ns.toInt64, .int ck, .long hh, .ref (qa 1), .ref (qa 2), .ref (qa 3), .ref (qa 4), .ref (qa 5), .ref (qa 6), .ref (qa 7), .ref (qa 8), .int (nI n), .ref (qa 9), .ref (qa 10), .ref (qa 11), .ref (qa 12), .ref (qa 13), .ref (qa 14), .ref (qa 15), .ref (qa 16), .ref (qa 17), .ref (qa 18), .ref (qa 19), .ref (qa 20)])), ((qa 1), .inl ((ct 0), 8, .inl a1))] H := lp_sub hP [0, 1] hC9
  have hDc := hD.sub (ws' := [(hm, .inr (4, [.int th, .long ns.toInt64, .int ck, .long hh, .ref (qa 1), .ref (qa 2), .ref (qa 3), .ref (qa 4), .ref (qa 5), .ref (qa 6), .ref (qa 7), .ref (qa 8), .int (nI n), .ref (qa 9), .ref (qa 10), .ref (qa 11), .ref (qa 12), .ref (qa 13), .ref (qa 14), .ref (qa 15), .ref (qa 16), .ref (qa 17), .ref (qa 18), .ref (qa 19), .ref (qa 20)])), ((qa 1), .inl ((ct 0), 8, .inl a1))]) [0, 1] hn9 hC9
  refine wk_i (va_runV (As := [.int (nI k)]) (rest := [.int 0]) ⟨hx, hb, hml, hown, hts⟩ (c_M_forget2 l G ct H.size hm th ns.toInt64 ck hh (qa 1) (qa 2) (qa 3) (qa 4) (qa 5) (qa 6) (qa 7) (qa 8) (qa 9) (qa 10) (qa 11) (qa 12) (qa 13) (qa 14) (qa 15) (qa 16) (qa 17) (qa 18) (qa 19) (qa 20) n a1 k m_hk m_hge) (tb_V hw cy_M_forget ww_767 ww_768 ww_769 rfl rfl ⟨Nat.le_of_ble_eq_true rfl, Nat.le_of_ble_eq_true rfl⟩) (wk_preV (ci := 4) (q0 := 0) hPc hK hDc rfl rfl) rfl rfl hl.1 rfl (lv_room (Nat.le_of_ble_eq_true rfl)) d_L_law_264 ⟨by omega, by omega⟩) hP hD hS hA [0, 1] hn9 hC9 (fun _ => by simp only [List.map_cons, List.map_nil]) (fun _ H locs _ hP hD hS => ?_)
  have hW9 : wk_sets ((lw_W ct hd us op hm qo qa fu au ns n ck n ck th hh a1 a2 a3 a4 a5 a6 a7 a8 a9 b0 b1 b2 b3 b4 b5 b6 b7 b8 b9 b10 og fo ad eu es) : va_W) [0, 1] ([(hm, .inr (4, [.int 0, .long ns.toInt64, .int ck, .long hh, .ref (qa 1), .ref (qa 2), .ref (qa 3), .ref (qa 4), .ref (qa 5), .ref (qa 6), .ref (qa 7), .ref (qa 8), .int (nI n), .ref (qa 9), .ref (qa 10), .ref (qa 11), .ref (qa 12), .ref (qa 13), .ref (qa 14), .ref (qa 15), .ref (qa 16), .ref (qa 17), .ref (qa 18), .ref (qa 19), .ref (qa 20)])), ((qa 1), .inl ((ct 0), 8, .inl a1))] : va_W) = ((lw_W ct hd us op hm qo qa fu au ns n ck n ck 0 hh a1 a2 a3 a4 a5 a6 a7 a8 a9 b0 b1 b2 b3 b4 b5 b6 b7 b8 b9 b10 og fo ad eu es) : va_W) := (ws_c (ws' := (lw_W ct hd us op hm qo qa fu au ns n ck n ck 0 hh a1 a2 a3 a4 a5 a6 a7 a8 a9 b0 b1 b2 b3 b4 b5 b6 b7 b8 b9 b10 og fo ad eu es)) rfl (ws_k rfl rfl))
  have hP : va_P G classes (lw_W ct hd us op hm qo qa fu au ns n ck n ck 0 hh a1 a2 a3 a4 a5 a6 a7 a8 a9 b0 b1 b2 b3 b4 b5 b6 b7 b8 b9 b10 og fo ad eu es) H := lp_P hW9 hP
  have hD : va_D A (lw_W ct hd us op hm qo qa fu au ns n ck n ck 0 hh a1 a2 a3 a4 a5 a6 a7 a8 a9 b0 b1 b2 b3 b4 b5 b6 b7 b8 b9 b10 og fo ad eu es) := lp_D hW9 hD
  refine lv_icmp_eq (tgt := 1005) hx hb d_L_law_267 (by decide) (fun h1004 => ?_) (fun h1004 => ?_)
  · refine W.widen (k := cells + 1) (n := slots + 13) (by omega) (by omega) ?_
    exact kk n ck 0 hh a1 a2 a3 a4 a5 a6 a7 a8 a9 b0 b1 b2 b3 b4 b5 b6 b7 b8 b9 b10 og fo ad eu es H locs _ hnew hP hD hS (lv_sub hl [0, 1, 2, 3, 4] rfl)
  · exact absurd h1004 (by decide)
set_option maxHeartbeats 4000000 in
set_option maxRecDepth 100000 in
theorem lq_forget0  (C0 : lc_C p l s m meth c b L xs G ct A) (hiv : iv + 7 ≤ L) (hcc : cells + 1 ≤ room_1.cells) (hzz : slots + 13 ≤ room_1.slots)
    (hP : va_P G classes (lw_W ct hd us op hm qo qa fu au ns n ck n ck th hh a1 a2 a3 a4 a5 a6 a7 a8 a9 b0 b1 b2 b3 b4 b5 b6 b7 b8 b9 b10 og fo ad eu es) H) (hD : va_D A (lw_W ct hd us op hm qo qa fu au ns n ck n ck th hh a1 a2 a3 a4 a5 a6 a7 a8 a9 b0 b1 b2 b3 b4 b5 b6 b7 b8 b9 b10 og fo ad eu es)) (hS : va_S A s.heap H locs) (hl : lv_has ls 8 [(4, .int (nI iv)), (3, .ref qo), (2, .ref hm), (1, .ref hd), (0, .ref b)])
    (kk : lc_K p l e s m below meth c b L xs G ct A hd us op hm qo qa fu au ns iv (cells + 1) (slots + 13) Q)
     (d_hno : ¬ us_in (xs (iv + 1))) (m_hno : ¬ us_in (xs (iv + 1)))  (hnew : li_R fu au ns n a1 a2 a3 a4 a5 a6 a7 a8 a9 b0 b1 b2 b3 b4 b5 b6 b7 b8 b9 b10 fo ad eu es)  : W p l e room_1 s m #[Value.ref b] below meth c H locs cells slots Q (F0 m 247 ls []) := by
  obtain ⟨hx, hb, hr, hml, hown, hw, hK, hZ, hR, hN, hfl, hA, hbA, hX, hbl, hL, hlocks⟩ := C0
  have hts := hw
  have hP : va_P G classes (lw_W ct hd us op hm qo qa fu au ns n ck n ck th hh a1 a2 a3 a4 a5 a6 a7 a8 a9 b0 b1 b2 b3 b4 b5 b6 b7 b8 b9 b10 og fo ad eu es) H := hP
  have hD : va_D A (lw_W ct hd us op hm qo qa fu au ns n ck n ck th hh a1 a2 a3 a4 a5 a6 a7 a8 a9 b0 b1 b2 b3 b4 b5 b6 b7 b8 b9 b10 og fo ad eu es) := hD
  refine lv_aload_n hx hb d_L_law_247 rfl (lv_at hl 3 rfl) ?_
  refine lv_aload_n hx hb d_L_law_248 rfl (lv_at hl 4 rfl) ?_
  refine lv_iload hx hb d_L_law_249 (lv_at hl 0 rfl) ?_
  refine lv_iconst (v := 1) hx hb d_L_law_251 (by decide) ?_
  refine lv_iadd hx hb d_L_law_252 ?_
  refine sl_ld (j := iv) (d := 1) hx hb hX hbl hbA hS hL (by omega) d_L_law_253 ?_
  have hC9 : List.map (fun i => ((lw_W ct hd us op hm qo qa fu au ns n ck n ck th hh a1 a2 a3 a4 a5 a6 a7 a8 a9 b0 b1 b2 b3 b4 b5 b6 b7 b8 b9 b10 og fo ad eu es) : va_W)[i]?) [22] = List.map some ([(hd, .inr (0, [.ref us, .ref op, .int (nI n), .int ck]))] : va_W) := (wc_c rfl rfl)
  have hn9 : va_nd [22] = true := by decide
  have hPc : va_P G classes [(hd, .inr (0, [.ref us, .ref op, .int (nI n), .int ck]))] H := lp_sub hP [22] hC9
  have hDc := hD.sub (ws' := [(hd, .inr (0, [.ref us, .ref op, .int (nI n), .int ck]))]) [22] hn9 hC9
  refine vp_callSi (W.runV (As := [.int (xs (iv + 1))]) (rest := []) ⟨hx, hb, hml, hown, hts⟩ (c_D_forget0 l G ct H.size hd us op n ck (xs (iv + 1)) d_hno) (tb_V hw cy_D_forget ww_130 ww_131 ww_132 rfl rfl ⟨Nat.le_of_ble_eq_true rfl, Nat.le_of_ble_eq_true rfl⟩) (wk_preV (ci := 0) (q0 := 0) hPc hK hDc rfl rfl) rfl rfl hl.1 rfl (lv_room (Nat.le_of_ble_eq_true rfl)) d_L_law_254 ⟨by omega, by omega⟩) (fun r1005 er1005 => ?_)
  rw [er1005]
  refine lv_aload_n hx hb d_L_law_257 rfl (lv_at hl 2 rfl) ?_
  refine lv_aload_n hx hb d_L_law_258 rfl (lv_at hl 4 rfl) ?_
  refine lv_iload hx hb d_L_law_259 (lv_at hl 0 rfl) ?_
  refine lv_iconst (v := 1) hx hb d_L_law_261 (by decide) ?_
  refine lv_iadd hx hb d_L_law_262 ?_
  refine sl_ld (j := iv) (d := 1) hx hb hX hbl hbA hS hL (by omega) d_L_law_263 ?_
  have hC9 : List.map (fun i => ((lw_W ct hd us op hm qo qa fu au ns n ck n ck th hh a1 a2 a3 a4 a5 a6 a7 a8 a9 b0 b1 b2 b3 b4 b5 b6 b7 b8 b9 b10 og fo ad eu es) : va_W)[i]?) [0] = List.map some ([(hm, .inr (4, [.int th, .long ns.toInt64, .int ck, .long hh, .ref (qa 1), .ref (qa 2), .ref (qa 3), .ref (qa 4), .ref (qa 5), .ref (qa 6), .ref (qa 7), .ref (qa 8), .int (nI n), .ref (qa 9), .ref (qa 10), .ref (qa 11), .ref (qa 12), .ref (qa 13), .ref (qa 14), .ref (qa 15), .ref (qa 16), .ref (qa 17), .ref (qa 18), .ref (qa 19), .ref (qa 20)]))] : va_W) := (wc_c rfl rfl)
  have hn9 : va_nd [0] = true := by decide
  have hPc : va_P G classes [(hm, .inr (4, [.int th, .long ns.toInt64, .int ck, .long hh, .ref (qa 1), .ref (qa 2), .ref (qa 3), .ref (qa 4), .ref (qa 5), .ref (qa 6), .ref (qa 7), .ref (qa 8), .int (nI n), .ref (qa 9), .ref (qa 10), .ref (qa 11), .ref (qa 12), .ref (qa 13), .ref (qa 14), .ref (qa 15), .ref (qa 16), .ref (qa 17), .ref (qa 18), .ref (qa 19), .ref (qa 20)]))] H := lp_sub hP [0] hC9
  have hDc := hD.sub (ws' := [(hm, .inr (4, [.int th, .long ns.toInt64, .int ck, .long hh, .ref (qa 1), .ref (qa 2), .ref (qa 3), .ref (qa 4), .ref (qa 5), .ref (qa 6), .ref (qa 7), .ref (qa 8), .int (nI n), .ref (qa 9), .ref (qa 10), .ref (qa 11), .ref (qa 12), .ref (qa 13), .ref (qa 14), .ref (qa 15), .ref (qa 16), .ref (qa 17), .ref (qa 18), .ref (qa 19), .ref (qa 20)]))]) [0] hn9 hC9
  refine wk_i (va_runV (As := [.int (xs (iv + 1))]) (rest := [.int 0]) ⟨hx, hb, hml, hown, hts⟩ (c_M_forget0 l G ct H.size hm th ns.toInt64 ck hh (qa 1) (qa 2) (qa 3) (qa 4) (qa 5) (qa 6) (qa 7) (qa 8) (qa 9) (qa 10) (qa 11) (qa 12) (qa 13) (qa 14) (qa 15) (qa 16) (qa 17) (qa 18) (qa 19) (qa 20) n (xs (iv + 1)) m_hno) (tb_V hw cy_M_forget ww_767 ww_768 ww_769 rfl rfl ⟨Nat.le_of_ble_eq_true rfl, Nat.le_of_ble_eq_true rfl⟩) (wk_preV (ci := 4) (q0 := 0) hPc hK hDc rfl rfl) rfl rfl hl.1 rfl (lv_room (Nat.le_of_ble_eq_true rfl)) d_L_law_264 ⟨by omega, by omega⟩) hP hD hS hA [0] hn9 hC9 (fun _ => by simp only [List.map_cons, List.map_nil]) (fun _ H locs _ hP hD hS => ?_)
  have hW9 : wk_sets ((lw_W ct hd us op hm qo qa fu au ns n ck n ck th hh a1 a2 a3 a4 a5 a6 a7 a8 a9 b0 b1 b2 b3 b4 b5 b6 b7 b8 b9 b10 og fo ad eu es) : va_W) [0] ([(hm, .inr (4, [.int 0, .long ns.toInt64, .int ck, .long hh, .ref (qa 1), .ref (qa 2), .ref (qa 3), .ref (qa 4), .ref (qa 5), .ref (qa 6), .ref (qa 7), .ref (qa 8), .int (nI n), .ref (qa 9), .ref (qa 10), .ref (qa 11), .ref (qa 12), .ref (qa 13), .ref (qa 14), .ref (qa 15), .ref (qa 16), .ref (qa 17), .ref (qa 18), .ref (qa 19), .ref (qa 20)]))] : va_W) = ((lw_W ct hd us op hm qo qa fu au ns n ck n ck 0 hh a1 a2 a3 a4 a5 a6 a7 a8 a9 b0 b1 b2 b3 b4 b5 b6 b7 b8 b9 b10 og fo ad eu es) : va_W) := (ws_c (ws' := (lw_W ct hd us op hm qo qa fu au ns n ck n ck 0 hh a1 a2 a3 a4 a5 a6 a7 a8 a9 b0 b1 b2 b3 b4 b5 b6 b7 b8 b9 b10 og fo ad eu es)) rfl rfl)
  have hP : va_P G classes (lw_W ct hd us op hm qo qa fu au ns n ck n ck 0 hh a1 a2 a3 a4 a5 a6 a7 a8 a9 b0 b1 b2 b3 b4 b5 b6 b7 b8 b9 b10 og fo ad eu es) H := lp_P hW9 hP
  have hD : va_D A (lw_W ct hd us op hm qo qa fu au ns n ck n ck 0 hh a1 a2 a3 a4 a5 a6 a7 a8 a9 b0 b1 b2 b3 b4 b5 b6 b7 b8 b9 b10 og fo ad eu es) := lp_D hW9 hD
  refine lv_icmp_eq (tgt := 1005) hx hb d_L_law_267 (by decide) (fun h1006 => ?_) (fun h1006 => ?_)
  · refine W.widen (k := cells + 1) (n := slots + 13) (by omega) (by omega) ?_
    exact kk n ck 0 hh a1 a2 a3 a4 a5 a6 a7 a8 a9 b0 b1 b2 b3 b4 b5 b6 b7 b8 b9 b10 og fo ad eu es H locs _ hnew hP hD hS (lv_sub hl [0, 1, 2, 3, 4] rfl)
  · exact absurd h1006 (by decide)
set_option maxHeartbeats 4000000 in
set_option maxRecDepth 100000 in
theorem lq_way1 {k : Nat} {uo : Nat} {ul : Int64} {uv : Nat} (C0 : lc_C p l s m meth c b L xs G ct A) (hiv : iv + 7 ≤ L) (hcc : cells + 1 ≤ room_1.cells) (hzz : slots + 13 ≤ room_1.slots)
    (hP : va_P G classes (lw_W ct hd us op hm qo qa fu au ns n ck n ck th hh a1 a2 a3 a4 a5 a6 a7 a8 a9 b0 b1 b2 b3 b4 b5 b6 b7 b8 b9 b10 og fo ad eu es) H) (hD : va_D A (lw_W ct hd us op hm qo qa fu au ns n ck n ck th hh a1 a2 a3 a4 a5 a6 a7 a8 a9 b0 b1 b2 b3 b4 b5 b6 b7 b8 b9 b10 og fo ad eu es)) (hS : va_S A s.heap H locs) (hl : lv_has ls 8 [(4, .int (nI iv)), (3, .ref qo), (2, .ref hm), (1, .ref hd), (0, .ref b)])
    (kk : lc_K p l e s m below meth c b L xs G ct A hd us op hm qo qa fu au ns iv (cells + 1) (slots + 13) Q)
    (hv1 : xs (iv + 1) = nI k) (hk8 : k < 8) (heu : eu k = .inr (1, [.int (nI k), .int ns, .int (a1 k), .long (lN uo), .long ul, .long (lN uv), .int (a5 k), .int (a6 k), .int (a7 k), .int (a8 k)])) (d_hk : k < 8) (d_hfu : fu k = some (au k)) (m_hk : k < 8)  (hnew : li_R fu au ns n a1 a2 a3 a4 a5 a6 a7 a8 a9 b0 b1 b2 b3 b4 b5 b6 b7 b8 b9 b10 fo ad eu es)  : W p l e room_1 s m #[Value.ref b] below meth c H locs cells slots Q (F0 m 272 ls []) := by
  obtain ⟨hx, hb, hr, hml, hown, hw, hK, hZ, hR, hN, hfl, hA, hbA, hX, hbl, hL, hlocks⟩ := C0
  have hts := hw
  have hP : va_P G classes (lw_W ct hd us op hm qo qa fu au ns n ck n ck th hh a1 a2 a3 a4 a5 a6 a7 a8 a9 b0 b1 b2 b3 b4 b5 b6 b7 b8 b9 b10 og fo ad eu es) H := hP
  have hD : va_D A (lw_W ct hd us op hm qo qa fu au ns n ck n ck th hh a1 a2 a3 a4 a5 a6 a7 a8 a9 b0 b1 b2 b3 b4 b5 b6 b7 b8 b9 b10 og fo ad eu es) := hD
  refine lv_aload_n hx hb d_L_law_272 rfl (lv_at hl 3 rfl) ?_
  refine lv_aload_n hx hb d_L_law_273 rfl (lv_at hl 4 rfl) ?_
  refine lv_iload hx hb d_L_law_274 (lv_at hl 0 rfl) ?_
  refine lv_iconst (v := 1) hx hb d_L_law_276 (by decide) ?_
  refine lv_iadd hx hb d_L_law_277 ?_
  refine sl_ld (j := iv) (d := 1) hx hb hX hbl hbA hS hL (by omega) d_L_law_278 ?_
  refine tp_i (hv1) ?_
  have hC9 : List.map (fun i => ((lw_W ct hd us op hm qo qa fu au ns n ck n ck th hh a1 a2 a3 a4 a5 a6 a7 a8 a9 b0 b1 b2 b3 b4 b5 b6 b7 b8 b9 b10 og fo ad eu es) : va_W)[i]?) [22, 23, 25 + k] = List.map some ([(hd, .inr (0, [.ref us, .ref op, .int (nI n), .int ck])), (us, .inl ((ct 3), 8, .inr (.inr (.inr (.inr fu))))), ((au k), .inr (1, [.int (nI k), .int ns, .int (a1 k), .long (lN uo), .long ul, .long (lN uv), .int (a5 k), .int (a6 k), .int (a7 k), .int (a8 k)]))] : va_W) := (wc_c rfl (wc_c rfl (wc_c (lw_u rfl hk8 heu) rfl)))
  have hn9 : va_nd [22, 23, 25 + k] = true := (nd_c (by simp only [List.mem_cons, List.not_mem_nil, or_false]; omega) (nd_c (by simp only [List.mem_cons, List.not_mem_nil, or_false]; omega) (nd_c List.not_mem_nil rfl)))
  have hPc : va_P G classes [(hd, .inr (0, [.ref us, .ref op, .int (nI n), .int ck])), (us, .inl ((ct 3), 8, .inr (.inr (.inr (.inr fu))))), ((au k), .inr (1, [.int (nI k), .int ns, .int (a1 k), .long (lN uo), .long ul, .long (lN uv), .int (a5 k), .int (a6 k), .int (a7 k), .int (a8 k)]))] H := lp_sub hP [22, 23, 25 + k] hC9
  have hDc := hD.sub (ws' := [(hd, .inr (0, [.ref us, .ref op, .int (nI n), .int ck])), (us, .inl ((ct 3), 8, .inr (.inr (.inr (.inr fu))))), ((au k), .inr (1, [.int (nI k), .int ns, .int (a1 k), .long (lN uo), .long ul, .long (lN uv), .int (a5 k), .int (a6 k), .int (a7 k), .int (a8 k)]))]) [22, 23, 25 + k] hn9 hC9
  refine vp_callSi (W.runV (As := [.int (nI k)]) (rest := []) ⟨hx, hb, hml, hown, hts⟩ (c_D_way1 l G ct H.size hd us op n ck fu (au k) k (nI k) ns (a1 k) uo ul uv (a5 k) (a6 k) (a7 k) (a8 k) d_hk d_hfu) (tb_V hw cy_D_way ww_134 ww_135 ww_136 rfl rfl ⟨Nat.le_of_ble_eq_true rfl, Nat.le_of_ble_eq_true rfl⟩) (wk_preV (ci := 0) (q0 := 0) hPc hK hDc rfl rfl) rfl rfl hl.1 rfl (lv_room (Nat.le_of_ble_eq_true rfl)) d_L_law_279 ⟨by omega, by omega⟩) (fun r1007 er1007 => ?_)
  rw [er1007]
  refine lv_aload_n hx hb d_L_law_282 rfl (lv_at hl 2 rfl) ?_
  refine lv_aload_n hx hb d_L_law_283 rfl (lv_at hl 4 rfl) ?_
  refine lv_iload hx hb d_L_law_284 (lv_at hl 0 rfl) ?_
  refine lv_iconst (v := 1) hx hb d_L_law_286 (by decide) ?_
  refine lv_iadd hx hb d_L_law_287 ?_
  refine sl_ld (j := iv) (d := 1) hx hb hX hbl hbA hS hL (by omega) d_L_law_288 ?_
  refine tp_i (hv1) ?_
  have hC9 : List.map (fun i => ((lw_W ct hd us op hm qo qa fu au ns n ck n ck th hh a1 a2 a3 a4 a5 a6 a7 a8 a9 b0 b1 b2 b3 b4 b5 b6 b7 b8 b9 b10 og fo ad eu es) : va_W)[i]?) [0, 1] = List.map some ([(hm, .inr (4, [.int th, .long ns.toInt64, .int ck, .long hh, .ref (qa 1), .ref (qa 2), .ref (qa 3), .ref (qa 4), .ref (qa 5), .ref (qa 6), .ref (qa 7), .ref (qa 8), .int (nI n), .ref (qa 9), .ref (qa 10), .ref (qa 11), .ref (qa 12), .ref (qa 13), .ref (qa 14), .ref (qa 15), .ref (qa 16), .ref (qa 17), .ref (qa 18), .ref (qa 19), .ref (qa 20)])), ((qa 1), .inl ((ct 0), 8, .inl a1))] : va_W) := (wc_c rfl (wc_c rfl rfl))
  have hn9 : va_nd [0, 1] = true := by decide
  have hPc : va_P G classes [(hm, .inr (4, [.int th, .long ns.toInt64, .int ck, .long hh, .ref (qa 1), .ref (qa 2), .ref (qa 3), .ref (qa 4), .ref (qa 5), .ref (qa 6), .ref (qa 7), .ref (qa 8), .int (nI n), .ref (qa 9), .ref (qa 10), .ref (qa 11), .ref (qa 12), .ref (qa 13), .ref (qa 14), .ref (qa 15), .ref (qa 16), .ref (qa 17), .ref (qa 18), .ref (qa 19), .ref (qa 20)])), ((qa 1), .inl ((ct 0), 8, .inl a1))] H := lp_sub hP [0, 1] hC9
  have hDc := hD.sub (ws' := [(hm, .inr (4, [.int th, .long ns.toInt64, .int ck, .long hh, .ref (qa 1), .ref (qa 2), .ref (qa 3), .ref (qa 4), .ref (qa 5), .ref (qa 6), .ref (qa 7), .ref (qa 8), .int (nI n), .ref (qa 9), .ref (qa 10), .ref (qa 11), .ref (qa 12), .ref (qa 13), .ref (qa 14), .ref (qa 15), .ref (qa 16), .ref (qa 17), .ref (qa 18), .ref (qa 19), .ref (qa 20)])), ((qa 1), .inl ((ct 0), 8, .inl a1))]) [0, 1] hn9 hC9
  refine wk_i (va_runV (As := [.int (nI k)]) (rest := [.int (a1 k)]) ⟨hx, hb, hml, hown, hts⟩ (c_M_way1 l G ct H.size hm th ns.toInt64 ck hh (qa 1) (qa 2) (qa 3) (qa 4) (qa 5) (qa 6) (qa 7) (qa 8) (qa 9) (qa 10) (qa 11) (qa 12) (qa 13) (qa 14) (qa 15) (qa 16) (qa 17) (qa 18) (qa 19) (qa 20) n a1 k m_hk) (tb_V hw cy_M_way ww_771 ww_772 ww_773 rfl rfl ⟨Nat.le_of_ble_eq_true rfl, Nat.le_of_ble_eq_true rfl⟩) (wk_preV (ci := 4) (q0 := 0) hPc hK hDc rfl rfl) rfl rfl hl.1 rfl (lv_room (Nat.le_of_ble_eq_true rfl)) d_L_law_289 ⟨by omega, by omega⟩) hP hD hS hA [0, 1] hn9 hC9 (fun _ => by simp only [List.map_cons, List.map_nil]) (fun _ H locs _ hP hD hS => ?_)
  have hW9 : wk_sets ((lw_W ct hd us op hm qo qa fu au ns n ck n ck th hh a1 a2 a3 a4 a5 a6 a7 a8 a9 b0 b1 b2 b3 b4 b5 b6 b7 b8 b9 b10 og fo ad eu es) : va_W) [0, 1] ([(hm, .inr (4, [.int 0, .long ns.toInt64, .int ck, .long hh, .ref (qa 1), .ref (qa 2), .ref (qa 3), .ref (qa 4), .ref (qa 5), .ref (qa 6), .ref (qa 7), .ref (qa 8), .int (nI n), .ref (qa 9), .ref (qa 10), .ref (qa 11), .ref (qa 12), .ref (qa 13), .ref (qa 14), .ref (qa 15), .ref (qa 16), .ref (qa 17), .ref (qa 18), .ref (qa 19), .ref (qa 20)])), ((qa 1), .inl ((ct 0), 8, .inl a1))] : va_W) = ((lw_W ct hd us op hm qo qa fu au ns n ck n ck 0 hh a1 a2 a3 a4 a5 a6 a7 a8 a9 b0 b1 b2 b3 b4 b5 b6 b7 b8 b9 b10 og fo ad eu es) : va_W) := (ws_c (ws' := (lw_W ct hd us op hm qo qa fu au ns n ck n ck 0 hh a1 a2 a3 a4 a5 a6 a7 a8 a9 b0 b1 b2 b3 b4 b5 b6 b7 b8 b9 b10 og fo ad eu es)) rfl (ws_k rfl rfl))
  have hP : va_P G classes (lw_W ct hd us op hm qo qa fu au ns n ck n ck 0 hh a1 a2 a3 a4 a5 a6 a7 a8 a9 b0 b1 b2 b3 b4 b5 b6 b7 b8 b9 b10 og fo ad eu es) H := lp_P hW9 hP
  have hD : va_D A (lw_W ct hd us op hm qo qa fu au ns n ck n ck 0 hh a1 a2 a3 a4 a5 a6 a7 a8 a9 b0 b1 b2 b3 b4 b5 b6 b7 b8 b9 b10 og fo ad eu es) := lp_D hW9 hD
  refine lv_icmp_eq (tgt := 1005) hx hb d_L_law_292 (by decide) (fun h1008 => ?_) (fun h1008 => ?_)
  · refine W.widen (k := cells + 1) (n := slots + 13) (by omega) (by omega) ?_
    exact kk n ck 0 hh a1 a2 a3 a4 a5 a6 a7 a8 a9 b0 b1 b2 b3 b4 b5 b6 b7 b8 b9 b10 og fo ad eu es H locs _ hnew hP hD hS (lv_sub hl [0, 1, 2, 3, 4] rfl)
  · exact absurd rfl h1008
set_option maxHeartbeats 4000000 in
set_option maxRecDepth 100000 in
theorem lq_way0  (C0 : lc_C p l s m meth c b L xs G ct A) (hiv : iv + 7 ≤ L) (hcc : cells + 1 ≤ room_1.cells) (hzz : slots + 13 ≤ room_1.slots)
    (hP : va_P G classes (lw_W ct hd us op hm qo qa fu au ns n ck n ck th hh a1 a2 a3 a4 a5 a6 a7 a8 a9 b0 b1 b2 b3 b4 b5 b6 b7 b8 b9 b10 og fo ad eu es) H) (hD : va_D A (lw_W ct hd us op hm qo qa fu au ns n ck n ck th hh a1 a2 a3 a4 a5 a6 a7 a8 a9 b0 b1 b2 b3 b4 b5 b6 b7 b8 b9 b10 og fo ad eu es)) (hS : va_S A s.heap H locs) (hl : lv_has ls 8 [(4, .int (nI iv)), (3, .ref qo), (2, .ref hm), (1, .ref hd), (0, .ref b)])
    (kk : lc_K p l e s m below meth c b L xs G ct A hd us op hm qo qa fu au ns iv (cells + 1) (slots + 13) Q)
     (d_hno : ¬ us_in (xs (iv + 1))) (m_hno : ¬ us_in (xs (iv + 1)))  (hnew : li_R fu au ns n a1 a2 a3 a4 a5 a6 a7 a8 a9 b0 b1 b2 b3 b4 b5 b6 b7 b8 b9 b10 fo ad eu es)  : W p l e room_1 s m #[Value.ref b] below meth c H locs cells slots Q (F0 m 272 ls []) := by
  obtain ⟨hx, hb, hr, hml, hown, hw, hK, hZ, hR, hN, hfl, hA, hbA, hX, hbl, hL, hlocks⟩ := C0
  have hts := hw
  have hP : va_P G classes (lw_W ct hd us op hm qo qa fu au ns n ck n ck th hh a1 a2 a3 a4 a5 a6 a7 a8 a9 b0 b1 b2 b3 b4 b5 b6 b7 b8 b9 b10 og fo ad eu es) H := hP
  have hD : va_D A (lw_W ct hd us op hm qo qa fu au ns n ck n ck th hh a1 a2 a3 a4 a5 a6 a7 a8 a9 b0 b1 b2 b3 b4 b5 b6 b7 b8 b9 b10 og fo ad eu es) := hD
  refine lv_aload_n hx hb d_L_law_272 rfl (lv_at hl 3 rfl) ?_
  refine lv_aload_n hx hb d_L_law_273 rfl (lv_at hl 4 rfl) ?_
  refine lv_iload hx hb d_L_law_274 (lv_at hl 0 rfl) ?_
  refine lv_iconst (v := 1) hx hb d_L_law_276 (by decide) ?_
  refine lv_iadd hx hb d_L_law_277 ?_
  refine sl_ld (j := iv) (d := 1) hx hb hX hbl hbA hS hL (by omega) d_L_law_278 ?_
  have hC9 : List.map (fun i => ((lw_W ct hd us op hm qo qa fu au ns n ck n ck th hh a1 a2 a3 a4 a5 a6 a7 a8 a9 b0 b1 b2 b3 b4 b5 b6 b7 b8 b9 b10 og fo ad eu es) : va_W)[i]?) [22] = List.map some ([(hd, .inr (0, [.ref us, .ref op, .int (nI n), .int ck]))] : va_W) := (wc_c rfl rfl)
  have hn9 : va_nd [22] = true := by decide
  have hPc : va_P G classes [(hd, .inr (0, [.ref us, .ref op, .int (nI n), .int ck]))] H := lp_sub hP [22] hC9
  have hDc := hD.sub (ws' := [(hd, .inr (0, [.ref us, .ref op, .int (nI n), .int ck]))]) [22] hn9 hC9
  refine vp_callSi (W.runV (As := [.int (xs (iv + 1))]) (rest := []) ⟨hx, hb, hml, hown, hts⟩ (c_D_way0 l G ct H.size hd us op n ck (xs (iv + 1)) d_hno) (tb_V hw cy_D_way ww_134 ww_135 ww_136 rfl rfl ⟨Nat.le_of_ble_eq_true rfl, Nat.le_of_ble_eq_true rfl⟩) (wk_preV (ci := 0) (q0 := 0) hPc hK hDc rfl rfl) rfl rfl hl.1 rfl (lv_room (Nat.le_of_ble_eq_true rfl)) d_L_law_279 ⟨by omega, by omega⟩) (fun r1009 er1009 => ?_)
  rw [er1009]
  refine lv_aload_n hx hb d_L_law_282 rfl (lv_at hl 2 rfl) ?_
  refine lv_aload_n hx hb d_L_law_283 rfl (lv_at hl 4 rfl) ?_
  refine lv_iload hx hb d_L_law_284 (lv_at hl 0 rfl) ?_
  refine lv_iconst (v := 1) hx hb d_L_law_286 (by decide) ?_
  refine lv_iadd hx hb d_L_law_287 ?_
  refine sl_ld (j := iv) (d := 1) hx hb hX hbl hbA hS hL (by omega) d_L_law_288 ?_
  have hC9 : List.map (fun i => ((lw_W ct hd us op hm qo qa fu au ns n ck n ck th hh a1 a2 a3 a4 a5 a6 a7 a8 a9 b0 b1 b2 b3 b4 b5 b6 b7 b8 b9 b10 og fo ad eu es) : va_W)[i]?) [0] = List.map some ([(hm, .inr (4, [.int th, .long ns.toInt64, .int ck, .long hh, .ref (qa 1), .ref (qa 2), .ref (qa 3), .ref (qa 4), .ref (qa 5), .ref (qa 6), .ref (qa 7), .ref (qa 8), .int (nI n), .ref (qa 9), .ref (qa 10), .ref (qa 11), .ref (qa 12), .ref (qa 13), .ref (qa 14), .ref (qa 15), .ref (qa 16), .ref (qa 17), .ref (qa 18), .ref (qa 19), .ref (qa 20)]))] : va_W) := (wc_c rfl rfl)
  have hn9 : va_nd [0] = true := by decide
  have hPc : va_P G classes [(hm, .inr (4, [.int th, .long ns.toInt64, .int ck, .long hh, .ref (qa 1), .ref (qa 2), .ref (qa 3), .ref (qa 4), .ref (qa 5), .ref (qa 6), .ref (qa 7), .ref (qa 8), .int (nI n), .ref (qa 9), .ref (qa 10), .ref (qa 11), .ref (qa 12), .ref (qa 13), .ref (qa 14), .ref (qa 15), .ref (qa 16), .ref (qa 17), .ref (qa 18), .ref (qa 19), .ref (qa 20)]))] H := lp_sub hP [0] hC9
  have hDc := hD.sub (ws' := [(hm, .inr (4, [.int th, .long ns.toInt64, .int ck, .long hh, .ref (qa 1), .ref (qa 2), .ref (qa 3), .ref (qa 4), .ref (qa 5), .ref (qa 6), .ref (qa 7), .ref (qa 8), .int (nI n), .ref (qa 9), .ref (qa 10), .ref (qa 11), .ref (qa 12), .ref (qa 13), .ref (qa 14), .ref (qa 15), .ref (qa 16), .ref (qa 17), .ref (qa 18), .ref (qa 19), .ref (qa 20)]))]) [0] hn9 hC9
  refine wk_i (va_runV (As := [.int (xs (iv + 1))]) (rest := [.int (-1)]) ⟨hx, hb, hml, hown, hts⟩ (c_M_way0 l G ct H.size hm th ns.toInt64 ck hh (qa 1) (qa 2) (qa 3) (qa 4) (qa 5) (qa 6) (qa 7) (qa 8) (qa 9) (qa 10) (qa 11) (qa 12) (qa 13) (qa 14) (qa 15) (qa 16) (qa 17) (qa 18) (qa 19) (qa 20) n (xs (iv + 1)) m_hno) (tb_V hw cy_M_way ww_771 ww_772 ww_773 rfl rfl ⟨Nat.le_of_ble_eq_true rfl, Nat.le_of_ble_eq_true rfl⟩) (wk_preV (ci := 4) (q0 := 0) hPc hK hDc rfl rfl) rfl rfl hl.1 rfl (lv_room (Nat.le_of_ble_eq_true rfl)) d_L_law_289 ⟨by omega, by omega⟩) hP hD hS hA [0] hn9 hC9 (fun _ => by simp only [List.map_cons, List.map_nil]) (fun _ H locs _ hP hD hS => ?_)
  have hW9 : wk_sets ((lw_W ct hd us op hm qo qa fu au ns n ck n ck th hh a1 a2 a3 a4 a5 a6 a7 a8 a9 b0 b1 b2 b3 b4 b5 b6 b7 b8 b9 b10 og fo ad eu es) : va_W) [0] ([(hm, .inr (4, [.int 0, .long ns.toInt64, .int ck, .long hh, .ref (qa 1), .ref (qa 2), .ref (qa 3), .ref (qa 4), .ref (qa 5), .ref (qa 6), .ref (qa 7), .ref (qa 8), .int (nI n), .ref (qa 9), .ref (qa 10), .ref (qa 11), .ref (qa 12), .ref (qa 13), .ref (qa 14), .ref (qa 15), .ref (qa 16), .ref (qa 17), .ref (qa 18), .ref (qa 19), .ref (qa 20)]))] : va_W) = ((lw_W ct hd us op hm qo qa fu au ns n ck n ck 0 hh a1 a2 a3 a4 a5 a6 a7 a8 a9 b0 b1 b2 b3 b4 b5 b6 b7 b8 b9 b10 og fo ad eu es) : va_W) := (ws_c (ws' := (lw_W ct hd us op hm qo qa fu au ns n ck n ck 0 hh a1 a2 a3 a4 a5 a6 a7 a8 a9 b0 b1 b2 b3 b4 b5 b6 b7 b8 b9 b10 og fo ad eu es)) rfl rfl)
  have hP : va_P G classes (lw_W ct hd us op hm qo qa fu au ns n ck n ck 0 hh a1 a2 a3 a4 a5 a6 a7 a8 a9 b0 b1 b2 b3 b4 b5 b6 b7 b8 b9 b10 og fo ad eu es) H := lp_P hW9 hP
  have hD : va_D A (lw_W ct hd us op hm qo qa fu au ns n ck n ck 0 hh a1 a2 a3 a4 a5 a6 a7 a8 a9 b0 b1 b2 b3 b4 b5 b6 b7 b8 b9 b10 og fo ad eu es) := lp_D hW9 hD
  refine lv_icmp_eq (tgt := 1005) hx hb d_L_law_292 (by decide) (fun h1010 => ?_) (fun h1010 => ?_)
  · refine W.widen (k := cells + 1) (n := slots + 13) (by omega) (by omega) ?_
    exact kk n ck 0 hh a1 a2 a3 a4 a5 a6 a7 a8 a9 b0 b1 b2 b3 b4 b5 b6 b7 b8 b9 b10 og fo ad eu es H locs _ hnew hP hD hS (lv_sub hl [0, 1, 2, 3, 4] rfl)
  · exact absurd h1010 (by decide)
set_option maxHeartbeats 4000000 in
set_option maxRecDepth 100000 in
theorem lq_salt1 {k : Nat} {uo : Nat} {ul : Int64} {uv : Nat} (C0 : lc_C p l s m meth c b L xs G ct A) (hiv : iv + 7 ≤ L) (hcc : cells + 1 ≤ room_1.cells) (hzz : slots + 13 ≤ room_1.slots)
    (hP : va_P G classes (lw_W ct hd us op hm qo qa fu au ns n ck n ck th hh a1 a2 a3 a4 a5 a6 a7 a8 a9 b0 b1 b2 b3 b4 b5 b6 b7 b8 b9 b10 og fo ad eu es) H) (hD : va_D A (lw_W ct hd us op hm qo qa fu au ns n ck n ck th hh a1 a2 a3 a4 a5 a6 a7 a8 a9 b0 b1 b2 b3 b4 b5 b6 b7 b8 b9 b10 og fo ad eu es)) (hS : va_S A s.heap H locs) (hl : lv_has ls 8 [(4, .int (nI iv)), (3, .ref qo), (2, .ref hm), (1, .ref hd), (0, .ref b)])
    (kk : lc_K p l e s m below meth c b L xs G ct A hd us op hm qo qa fu au ns iv (cells + 1) (slots + 13) Q)
    (hv1 : xs (iv + 1) = nI k) (hk8 : k < 8) (heu : eu k = .inr (1, [.int (nI k), .int ns, .int (a1 k), .long (lN uo), .long ul, .long (lN uv), .int (a5 k), .int (a6 k), .int (a7 k), .int (a8 k)])) (d_hk : k < 8) (d_hfu : fu k = some (au k)) (m_hk : k < 8) (hval : us_sa ns (nI k) (a1 k) ul = sm_sa ns.toInt64 (nI k) (a1 k) (a3 k)) (hnew : li_R fu au ns n a1 a2 a3 a4 a5 a6 a7 a8 a9 b0 b1 b2 b3 b4 b5 b6 b7 b8 b9 b10 fo ad eu es)  : W p l e room_1 s m #[Value.ref b] below meth c H locs cells slots Q (F0 m 297 ls []) := by
  obtain ⟨hx, hb, hr, hml, hown, hw, hK, hZ, hR, hN, hfl, hA, hbA, hX, hbl, hL, hlocks⟩ := C0
  have hts := hw
  have hP : va_P G classes (lw_W ct hd us op hm qo qa fu au ns n ck n ck th hh a1 a2 a3 a4 a5 a6 a7 a8 a9 b0 b1 b2 b3 b4 b5 b6 b7 b8 b9 b10 og fo ad eu es) H := hP
  have hD : va_D A (lw_W ct hd us op hm qo qa fu au ns n ck n ck th hh a1 a2 a3 a4 a5 a6 a7 a8 a9 b0 b1 b2 b3 b4 b5 b6 b7 b8 b9 b10 og fo ad eu es) := hD
  refine lv_aload_n hx hb d_L_law_297 rfl (lv_at hl 3 rfl) ?_
  refine lv_aload_n hx hb d_L_law_298 rfl (lv_at hl 4 rfl) ?_
  refine lv_iload hx hb d_L_law_299 (lv_at hl 0 rfl) ?_
  refine lv_iconst (v := 1) hx hb d_L_law_301 (by decide) ?_
  refine lv_iadd hx hb d_L_law_302 ?_
  refine sl_ld (j := iv) (d := 1) hx hb hX hbl hbA hS hL (by omega) d_L_law_303 ?_
  refine tp_i (hv1) ?_
  have hC9 : List.map (fun i => ((lw_W ct hd us op hm qo qa fu au ns n ck n ck th hh a1 a2 a3 a4 a5 a6 a7 a8 a9 b0 b1 b2 b3 b4 b5 b6 b7 b8 b9 b10 og fo ad eu es) : va_W)[i]?) [22, 23, 25 + k] = List.map some ([(hd, .inr (0, [.ref us, .ref op, .int (nI n), .int ck])), (us, .inl ((ct 3), 8, .inr (.inr (.inr (.inr fu))))), ((au k), .inr (1, [.int (nI k), .int ns, .int (a1 k), .long (lN uo), .long ul, .long (lN uv), .int (a5 k), .int (a6 k), .int (a7 k), .int (a8 k)]))] : va_W) := (wc_c rfl (wc_c rfl (wc_c (lw_u rfl hk8 heu) rfl)))
  have hn9 : va_nd [22, 23, 25 + k] = true := (nd_c (by simp only [List.mem_cons, List.not_mem_nil, or_false]; omega) (nd_c (by simp only [List.mem_cons, List.not_mem_nil, or_false]; omega) (nd_c List.not_mem_nil rfl)))
  have hPc : va_P G classes [(hd, .inr (0, [.ref us, .ref op, .int (nI n), .int ck])), (us, .inl ((ct 3), 8, .inr (.inr (.inr (.inr fu))))), ((au k), .inr (1, [.int (nI k), .int ns, .int (a1 k), .long (lN uo), .long ul, .long (lN uv), .int (a5 k), .int (a6 k), .int (a7 k), .int (a8 k)]))] H := lp_sub hP [22, 23, 25 + k] hC9
  have hDc := hD.sub (ws' := [(hd, .inr (0, [.ref us, .ref op, .int (nI n), .int ck])), (us, .inl ((ct 3), 8, .inr (.inr (.inr (.inr fu))))), ((au k), .inr (1, [.int (nI k), .int ns, .int (a1 k), .long (lN uo), .long ul, .long (lN uv), .int (a5 k), .int (a6 k), .int (a7 k), .int (a8 k)]))]) [22, 23, 25 + k] hn9 hC9
  refine vp_callSl (W.runV (As := [.int (nI k)]) (rest := []) ⟨hx, hb, hml, hown, hts⟩ (c_D_salt1 l G ct H.size hd us op n ck fu (au k) k (nI k) ns (a1 k) uo ul uv (a5 k) (a6 k) (a7 k) (a8 k) d_hk d_hfu) (tb_V hw cy_D_salt ww_138 ww_139 ww_140 rfl rfl ⟨Nat.le_of_ble_eq_true rfl, Nat.le_of_ble_eq_true rfl⟩) (wk_preV (ci := 0) (q0 := 0) hPc hK hDc rfl rfl) rfl rfl hl.1 rfl (lv_room (Nat.le_of_ble_eq_true rfl)) d_L_law_304 ⟨by omega, by omega⟩) (fun r1011 er1011 => ?_)
  rw [er1011]
  refine lv_aload_n hx hb d_L_law_307 rfl (lv_at hl 2 rfl) ?_
  refine lv_aload_n hx hb d_L_law_308 rfl (lv_at hl 4 rfl) ?_
  refine lv_iload hx hb d_L_law_309 (lv_at hl 0 rfl) ?_
  refine lv_iconst (v := 1) hx hb d_L_law_311 (by decide) ?_
  refine lv_iadd hx hb d_L_law_312 ?_
  refine sl_ld (j := iv) (d := 1) hx hb hX hbl hbA hS hL (by omega) d_L_law_313 ?_
  refine tp_i (hv1) ?_
  have hC9 : List.map (fun i => ((lw_W ct hd us op hm qo qa fu au ns n ck n ck th hh a1 a2 a3 a4 a5 a6 a7 a8 a9 b0 b1 b2 b3 b4 b5 b6 b7 b8 b9 b10 og fo ad eu es) : va_W)[i]?) [0, 1, 3] = List.map some ([(hm, .inr (4, [.int th, .long ns.toInt64, .int ck, .long hh, .ref (qa 1), .ref (qa 2), .ref (qa 3), .ref (qa 4), .ref (qa 5), .ref (qa 6), .ref (qa 7), .ref (qa 8), .int (nI n), .ref (qa 9), .ref (qa 10), .ref (qa 11), .ref (qa 12), .ref (qa 13), .ref (qa 14), .ref (qa 15), .ref (qa 16), .ref (qa 17), .ref (qa 18), .ref (qa 19), .ref (qa 20)])), ((qa 1), .inl ((ct 0), 8, .inl a1)), ((qa 3), .inl ((ct 1), 8, .inr (.inl a3)))] : va_W) := (wc_c rfl (wc_c rfl (wc_c rfl rfl)))
  have hn9 : va_nd [0, 1, 3] = true := by decide
  have hPc : va_P G classes [(hm, .inr (4, [.int th, .long ns.toInt64, .int ck, .long hh, .ref (qa 1), .ref (qa 2), .ref (qa 3), .ref (qa 4), .ref (qa 5), .ref (qa 6), .ref (qa 7), .ref (qa 8), .int (nI n), .ref (qa 9), .ref (qa 10), .ref (qa 11), .ref (qa 12), .ref (qa 13), .ref (qa 14), .ref (qa 15), .ref (qa 16), .ref (qa 17), .ref (qa 18), .ref (qa 19), .ref (qa 20)])), ((qa 1), .inl ((ct 0), 8, .inl a1)), ((qa 3), .inl ((ct 1), 8, .inr (.inl a3)))] H := lp_sub hP [0, 1, 3] hC9
  have hDc := hD.sub (ws' := [(hm, .inr (4, [.int th, .long ns.toInt64, .int ck, .long hh, .ref (qa 1), .ref (qa 2), .ref (qa 3), .ref (qa 4), .ref (qa 5), .ref (qa 6), .ref (qa 7), .ref (qa 8), .int (nI n), .ref (qa 9), .ref (qa 10), .ref (qa 11), .ref (qa 12), .ref (qa 13), .ref (qa 14), .ref (qa 15), .ref (qa 16), .ref (qa 17), .ref (qa 18), .ref (qa 19), .ref (qa 20)])), ((qa 1), .inl ((ct 0), 8, .inl a1)), ((qa 3), .inl ((ct 1), 8, .inr (.inl a3)))]) [0, 1, 3] hn9 hC9
  refine wk_l (va_runV (As := [.int (nI k)]) (rest := [.long (us_sa ns (nI k) (a1 k) ul)]) ⟨hx, hb, hml, hown, hts⟩ (c_M_salt1 l G ct H.size hm th ns.toInt64 ck hh (qa 1) (qa 2) (qa 3) (qa 4) (qa 5) (qa 6) (qa 7) (qa 8) (qa 9) (qa 10) (qa 11) (qa 12) (qa 13) (qa 14) (qa 15) (qa 16) (qa 17) (qa 18) (qa 19) (qa 20) n a1 a3 k m_hk) (tb_V hw cy_M_salt ww_775 ww_776 ww_777 rfl rfl ⟨Nat.le_of_ble_eq_true rfl, Nat.le_of_ble_eq_true rfl⟩) (wk_preV (ci := 4) (q0 := 0) hPc hK hDc rfl rfl) rfl rfl hl.1 rfl (lv_room (Nat.le_of_ble_eq_true rfl)) d_L_law_314 ⟨by omega, by omega⟩) hP hD hS hA [0, 1, 3] hn9 hC9 (fun _ => by simp only [List.map_cons, List.map_nil]) (fun z21012 H locs _ hP hD hS => ?_)
  have hW9 : wk_sets ((lw_W ct hd us op hm qo qa fu au ns n ck n ck th hh a1 a2 a3 a4 a5 a6 a7 a8 a9 b0 b1 b2 b3 b4 b5 b6 b7 b8 b9 b10 og fo ad eu es) : va_W) [0, 1, 3] ([(hm, .inr (4, [.int 0, .long ns.toInt64, .int ck, .long z21012, .ref (qa 1), .ref (qa 2), .ref (qa 3), .ref (qa 4), .ref (qa 5), .ref (qa 6), .ref (qa 7), .ref (qa 8), .int (nI n), .ref (qa 9), .ref (qa 10), .ref (qa 11), .ref (qa 12), .ref (qa 13), .ref (qa 14), .ref (qa 15), .ref (qa 16), .ref (qa 17), .ref (qa 18), .ref (qa 19), .ref (qa 20)])), ((qa 1), .inl ((ct 0), 8, .inl a1)), ((qa 3), .inl ((ct 1), 8, .inr (.inl a3)))] : va_W) = ((lw_W ct hd us op hm qo qa fu au ns n ck n ck 0 z21012 a1 a2 a3 a4 a5 a6 a7 a8 a9 b0 b1 b2 b3 b4 b5 b6 b7 b8 b9 b10 og fo ad eu es) : va_W) := (ws_c (ws' := (lw_W ct hd us op hm qo qa fu au ns n ck n ck 0 z21012 a1 a2 a3 a4 a5 a6 a7 a8 a9 b0 b1 b2 b3 b4 b5 b6 b7 b8 b9 b10 og fo ad eu es)) rfl (ws_k rfl (ws_k rfl rfl)))
  have hP : va_P G classes (lw_W ct hd us op hm qo qa fu au ns n ck n ck 0 z21012 a1 a2 a3 a4 a5 a6 a7 a8 a9 b0 b1 b2 b3 b4 b5 b6 b7 b8 b9 b10 og fo ad eu es) H := lp_P hW9 hP
  have hD : va_D A (lw_W ct hd us op hm qo qa fu au ns n ck n ck 0 z21012 a1 a2 a3 a4 a5 a6 a7 a8 a9 b0 b1 b2 b3 b4 b5 b6 b7 b8 b9 b10 og fo ad eu es) := lp_D hW9 hD
  refine W.lcmp hx hb d_L_law_317 ?_
  refine lv_if_eq (tgt := 1005) hx hb d_L_law_318 (by decide) (fun h1013 => ?_) (fun h1013 => ?_)
  · have h1013 := (lg_cmp_eq _ _).mp h1013
    refine W.widen (k := cells + 1) (n := slots + 13) (by omega) (by omega) ?_
    exact kk n ck 0 z21012 a1 a2 a3 a4 a5 a6 a7 a8 a9 b0 b1 b2 b3 b4 b5 b6 b7 b8 b9 b10 og fo ad eu es H locs _ hnew hP hD hS (lv_sub hl [0, 1, 2, 3, 4] rfl)
  · have h1013 := fun q => h1013 ((lg_cmp_eq _ _).mpr q)
    exact absurd hval h1013
set_option maxHeartbeats 4000000 in
set_option maxRecDepth 100000 in
theorem lq_salt0  (C0 : lc_C p l s m meth c b L xs G ct A) (hiv : iv + 7 ≤ L) (hcc : cells + 1 ≤ room_1.cells) (hzz : slots + 13 ≤ room_1.slots)
    (hP : va_P G classes (lw_W ct hd us op hm qo qa fu au ns n ck n ck th hh a1 a2 a3 a4 a5 a6 a7 a8 a9 b0 b1 b2 b3 b4 b5 b6 b7 b8 b9 b10 og fo ad eu es) H) (hD : va_D A (lw_W ct hd us op hm qo qa fu au ns n ck n ck th hh a1 a2 a3 a4 a5 a6 a7 a8 a9 b0 b1 b2 b3 b4 b5 b6 b7 b8 b9 b10 og fo ad eu es)) (hS : va_S A s.heap H locs) (hl : lv_has ls 8 [(4, .int (nI iv)), (3, .ref qo), (2, .ref hm), (1, .ref hd), (0, .ref b)])
    (kk : lc_K p l e s m below meth c b L xs G ct A hd us op hm qo qa fu au ns iv (cells + 1) (slots + 13) Q)
     (d_hno : ¬ us_in (xs (iv + 1))) (m_hno : ¬ us_in (xs (iv + 1)))  (hnew : li_R fu au ns n a1 a2 a3 a4 a5 a6 a7 a8 a9 b0 b1 b2 b3 b4 b5 b6 b7 b8 b9 b10 fo ad eu es)  : W p l e room_1 s m #[Value.ref b] below meth c H locs cells slots Q (F0 m 297 ls []) := by
  obtain ⟨hx, hb, hr, hml, hown, hw, hK, hZ, hR, hN, hfl, hA, hbA, hX, hbl, hL, hlocks⟩ := C0
  have hts := hw
  have hP : va_P G classes (lw_W ct hd us op hm qo qa fu au ns n ck n ck th hh a1 a2 a3 a4 a5 a6 a7 a8 a9 b0 b1 b2 b3 b4 b5 b6 b7 b8 b9 b10 og fo ad eu es) H := hP
  have hD : va_D A (lw_W ct hd us op hm qo qa fu au ns n ck n ck th hh a1 a2 a3 a4 a5 a6 a7 a8 a9 b0 b1 b2 b3 b4 b5 b6 b7 b8 b9 b10 og fo ad eu es) := hD
  refine lv_aload_n hx hb d_L_law_297 rfl (lv_at hl 3 rfl) ?_
  refine lv_aload_n hx hb d_L_law_298 rfl (lv_at hl 4 rfl) ?_
  refine lv_iload hx hb d_L_law_299 (lv_at hl 0 rfl) ?_
  refine lv_iconst (v := 1) hx hb d_L_law_301 (by decide) ?_
  refine lv_iadd hx hb d_L_law_302 ?_
  refine sl_ld (j := iv) (d := 1) hx hb hX hbl hbA hS hL (by omega) d_L_law_303 ?_
  have hC9 : List.map (fun i => ((lw_W ct hd us op hm qo qa fu au ns n ck n ck th hh a1 a2 a3 a4 a5 a6 a7 a8 a9 b0 b1 b2 b3 b4 b5 b6 b7 b8 b9 b10 og fo ad eu es) : va_W)[i]?) [22] = List.map some ([(hd, .inr (0, [.ref us, .ref op, .int (nI n), .int ck]))] : va_W) := (wc_c rfl rfl)
  have hn9 : va_nd [22] = true := by decide
  have hPc : va_P G classes [(hd, .inr (0, [.ref us, .ref op, .int (nI n), .int ck]))] H := lp_sub hP [22] hC9
  have hDc := hD.sub (ws' := [(hd, .inr (0, [.ref us, .ref op, .int (nI n), .int ck]))]) [22] hn9 hC9
  refine vp_callSl (W.runV (As := [.int (xs (iv + 1))]) (rest := []) ⟨hx, hb, hml, hown, hts⟩ (c_D_salt0 l G ct H.size hd us op n ck (xs (iv + 1)) d_hno) (tb_V hw cy_D_salt ww_138 ww_139 ww_140 rfl rfl ⟨Nat.le_of_ble_eq_true rfl, Nat.le_of_ble_eq_true rfl⟩) (wk_preV (ci := 0) (q0 := 0) hPc hK hDc rfl rfl) rfl rfl hl.1 rfl (lv_room (Nat.le_of_ble_eq_true rfl)) d_L_law_304 ⟨by omega, by omega⟩) (fun r1014 er1014 => ?_)
  rw [er1014]
  refine lv_aload_n hx hb d_L_law_307 rfl (lv_at hl 2 rfl) ?_
  refine lv_aload_n hx hb d_L_law_308 rfl (lv_at hl 4 rfl) ?_
  refine lv_iload hx hb d_L_law_309 (lv_at hl 0 rfl) ?_
  refine lv_iconst (v := 1) hx hb d_L_law_311 (by decide) ?_
  refine lv_iadd hx hb d_L_law_312 ?_
  refine sl_ld (j := iv) (d := 1) hx hb hX hbl hbA hS hL (by omega) d_L_law_313 ?_
  have hC9 : List.map (fun i => ((lw_W ct hd us op hm qo qa fu au ns n ck n ck th hh a1 a2 a3 a4 a5 a6 a7 a8 a9 b0 b1 b2 b3 b4 b5 b6 b7 b8 b9 b10 og fo ad eu es) : va_W)[i]?) [0] = List.map some ([(hm, .inr (4, [.int th, .long ns.toInt64, .int ck, .long hh, .ref (qa 1), .ref (qa 2), .ref (qa 3), .ref (qa 4), .ref (qa 5), .ref (qa 6), .ref (qa 7), .ref (qa 8), .int (nI n), .ref (qa 9), .ref (qa 10), .ref (qa 11), .ref (qa 12), .ref (qa 13), .ref (qa 14), .ref (qa 15), .ref (qa 16), .ref (qa 17), .ref (qa 18), .ref (qa 19), .ref (qa 20)]))] : va_W) := (wc_c rfl rfl)
  have hn9 : va_nd [0] = true := by decide
  have hPc : va_P G classes [(hm, .inr (4, [.int th, .long ns.toInt64, .int ck, .long hh, .ref (qa 1), .ref (qa 2), .ref (qa 3), .ref (qa 4), .ref (qa 5), .ref (qa 6), .ref (qa 7), .ref (qa 8), .int (nI n), .ref (qa 9), .ref (qa 10), .ref (qa 11), .ref (qa 12), .ref (qa 13), .ref (qa 14), .ref (qa 15), .ref (qa 16), .ref (qa 17), .ref (qa 18), .ref (qa 19), .ref (qa 20)]))] H := lp_sub hP [0] hC9
  have hDc := hD.sub (ws' := [(hm, .inr (4, [.int th, .long ns.toInt64, .int ck, .long hh, .ref (qa 1), .ref (qa 2), .ref (qa 3), .ref (qa 4), .ref (qa 5), .ref (qa 6), .ref (qa 7), .ref (qa 8), .int (nI n), .ref (qa 9), .ref (qa 10), .ref (qa 11), .ref (qa 12), .ref (qa 13), .ref (qa 14), .ref (qa 15), .ref (qa 16), .ref (qa 17), .ref (qa 18), .ref (qa 19), .ref (qa 20)]))]) [0] hn9 hC9
  refine wk_l (va_runV (As := [.int (xs (iv + 1))]) (rest := [.long 0]) ⟨hx, hb, hml, hown, hts⟩ (c_M_salt0 l G ct H.size hm th ns.toInt64 ck hh (qa 1) (qa 2) (qa 3) (qa 4) (qa 5) (qa 6) (qa 7) (qa 8) (qa 9) (qa 10) (qa 11) (qa 12) (qa 13) (qa 14) (qa 15) (qa 16) (qa 17) (qa 18) (qa 19) (qa 20) n (xs (iv + 1)) m_hno) (tb_V hw cy_M_salt ww_775 ww_776 ww_777 rfl rfl ⟨Nat.le_of_ble_eq_true rfl, Nat.le_of_ble_eq_true rfl⟩) (wk_preV (ci := 4) (q0 := 0) hPc hK hDc rfl rfl) rfl rfl hl.1 rfl (lv_room (Nat.le_of_ble_eq_true rfl)) d_L_law_314 ⟨by omega, by omega⟩) hP hD hS hA [0] hn9 hC9 (fun _ => by simp only [List.map_cons, List.map_nil]) (fun _ H locs _ hP hD hS => ?_)
  have hW9 : wk_sets ((lw_W ct hd us op hm qo qa fu au ns n ck n ck th hh a1 a2 a3 a4 a5 a6 a7 a8 a9 b0 b1 b2 b3 b4 b5 b6 b7 b8 b9 b10 og fo ad eu es) : va_W) [0] ([(hm, .inr (4, [.int 0, .long ns.toInt64, .int ck, .long hh, .ref (qa 1), .ref (qa 2), .ref (qa 3), .ref (qa 4), .ref (qa 5), .ref (qa 6), .ref (qa 7), .ref (qa 8), .int (nI n), .ref (qa 9), .ref (qa 10), .ref (qa 11), .ref (qa 12), .ref (qa 13), .ref (qa 14), .ref (qa 15), .ref (qa 16), .ref (qa 17), .ref (qa 18), .ref (qa 19), .ref (qa 20)]))] : va_W) = ((lw_W ct hd us op hm qo qa fu au ns n ck n ck 0 hh a1 a2 a3 a4 a5 a6 a7 a8 a9 b0 b1 b2 b3 b4 b5 b6 b7 b8 b9 b10 og fo ad eu es) : va_W) := (ws_c (ws' := (lw_W ct hd us op hm qo qa fu au ns n ck n ck 0 hh a1 a2 a3 a4 a5 a6 a7 a8 a9 b0 b1 b2 b3 b4 b5 b6 b7 b8 b9 b10 og fo ad eu es)) rfl rfl)
  have hP : va_P G classes (lw_W ct hd us op hm qo qa fu au ns n ck n ck 0 hh a1 a2 a3 a4 a5 a6 a7 a8 a9 b0 b1 b2 b3 b4 b5 b6 b7 b8 b9 b10 og fo ad eu es) H := lp_P hW9 hP
  have hD : va_D A (lw_W ct hd us op hm qo qa fu au ns n ck n ck 0 hh a1 a2 a3 a4 a5 a6 a7 a8 a9 b0 b1 b2 b3 b4 b5 b6 b7 b8 b9 b10 og fo ad eu es) := lp_D hW9 hD
  refine W.lcmp hx hb d_L_law_317 ?_
  refine lv_if_eq (tgt := 1005) hx hb d_L_law_318 (by decide) (fun h1015 => ?_) (fun h1015 => ?_)
  · have h1015 := (lg_cmp_eq _ _).mp h1015
    refine W.widen (k := cells + 1) (n := slots + 13) (by omega) (by omega) ?_
    exact kk n ck 0 hh a1 a2 a3 a4 a5 a6 a7 a8 a9 b0 b1 b2 b3 b4 b5 b6 b7 b8 b9 b10 og fo ad eu es H locs _ hnew hP hD hS (lv_sub hl [0, 1, 2, 3, 4] rfl)
  · have h1015 := fun q => h1015 ((lg_cmp_eq _ _).mpr q)
    exact absurd rfl h1015
set_option maxHeartbeats 4000000 in
set_option maxRecDepth 100000 in
theorem lq_blocked1 {k : Nat} {uo : Nat} {ul : Int64} {uv : Nat} (C0 : lc_C p l s m meth c b L xs G ct A) (hiv : iv + 7 ≤ L) (hcc : cells + 1 ≤ room_1.cells) (hzz : slots + 13 ≤ room_1.slots)
    (hP : va_P G classes (lw_W ct hd us op hm qo qa fu au ns n ck n ck th hh a1 a2 a3 a4 a5 a6 a7 a8 a9 b0 b1 b2 b3 b4 b5 b6 b7 b8 b9 b10 og fo ad eu es) H) (hD : va_D A (lw_W ct hd us op hm qo qa fu au ns n ck n ck th hh a1 a2 a3 a4 a5 a6 a7 a8 a9 b0 b1 b2 b3 b4 b5 b6 b7 b8 b9 b10 og fo ad eu es)) (hS : va_S A s.heap H locs) (hl : lv_has ls 8 [(4, .int (nI iv)), (3, .ref qo), (2, .ref hm), (1, .ref hd), (0, .ref b)])
    (kk : lc_K p l e s m below meth c b L xs G ct A hd us op hm qo qa fu au ns iv (cells + 1) (slots + 13) Q)
    (hv1 : xs (iv + 1) = nI k) (hk8 : k < 8) (heu : eu k = .inr (1, [.int (nI k), .int ns, .int (a1 k), .long (lN uo), .long ul, .long (lN uv), .int (a5 k), .int (a6 k), .int (a7 k), .int (a8 k)])) (d_hk : k < 8) (d_hfu : fu k = some (au k)) (m_hk : k < 8) (hval : (if us_bl (a5 k) (a8 k) ck then (1 : Int32) else 0) = (if sm_bl (a5 k) (a8 k) ck then 1 else 0)) (hnew : li_R fu au ns n a1 a2 a3 a4 a5 a6 a7 a8 a9 b0 b1 b2 b3 b4 b5 b6 b7 b8 b9 b10 fo ad eu es)  : W p l e room_1 s m #[Value.ref b] below meth c H locs cells slots Q (F0 m 911 ls []) := by
  obtain ⟨hx, hb, hr, hml, hown, hw, hK, hZ, hR, hN, hfl, hA, hbA, hX, hbl, hL, hlocks⟩ := C0
  have hts := hw
  have hP : va_P G classes (lw_W ct hd us op hm qo qa fu au ns n ck n ck th hh a1 a2 a3 a4 a5 a6 a7 a8 a9 b0 b1 b2 b3 b4 b5 b6 b7 b8 b9 b10 og fo ad eu es) H := hP
  have hD : va_D A (lw_W ct hd us op hm qo qa fu au ns n ck n ck th hh a1 a2 a3 a4 a5 a6 a7 a8 a9 b0 b1 b2 b3 b4 b5 b6 b7 b8 b9 b10 og fo ad eu es) := hD
  refine lv_aload_n hx hb d_L_law_911 rfl (lv_at hl 3 rfl) ?_
  refine lv_aload_n hx hb d_L_law_912 rfl (lv_at hl 4 rfl) ?_
  refine lv_iload hx hb d_L_law_913 (lv_at hl 0 rfl) ?_
  refine lv_iconst (v := 1) hx hb d_L_law_915 (by decide) ?_
  refine lv_iadd hx hb d_L_law_916 ?_
  refine sl_ld (j := iv) (d := 1) hx hb hX hbl hbA hS hL (by omega) d_L_law_917 ?_
  refine tp_i (hv1) ?_
  have hC9 : List.map (fun i => ((lw_W ct hd us op hm qo qa fu au ns n ck n ck th hh a1 a2 a3 a4 a5 a6 a7 a8 a9 b0 b1 b2 b3 b4 b5 b6 b7 b8 b9 b10 og fo ad eu es) : va_W)[i]?) [22, 23, 25 + k] = List.map some ([(hd, .inr (0, [.ref us, .ref op, .int (nI n), .int ck])), (us, .inl ((ct 3), 8, .inr (.inr (.inr (.inr fu))))), ((au k), .inr (1, [.int (nI k), .int ns, .int (a1 k), .long (lN uo), .long ul, .long (lN uv), .int (a5 k), .int (a6 k), .int (a7 k), .int (a8 k)]))] : va_W) := (wc_c rfl (wc_c rfl (wc_c (lw_u rfl hk8 heu) rfl)))
  have hn9 : va_nd [22, 23, 25 + k] = true := (nd_c (by simp only [List.mem_cons, List.not_mem_nil, or_false]; omega) (nd_c (by simp only [List.mem_cons, List.not_mem_nil, or_false]; omega) (nd_c List.not_mem_nil rfl)))
  have hPc : va_P G classes [(hd, .inr (0, [.ref us, .ref op, .int (nI n), .int ck])), (us, .inl ((ct 3), 8, .inr (.inr (.inr (.inr fu))))), ((au k), .inr (1, [.int (nI k), .int ns, .int (a1 k), .long (lN uo), .long ul, .long (lN uv), .int (a5 k), .int (a6 k), .int (a7 k), .int (a8 k)]))] H := lp_sub hP [22, 23, 25 + k] hC9
  have hDc := hD.sub (ws' := [(hd, .inr (0, [.ref us, .ref op, .int (nI n), .int ck])), (us, .inl ((ct 3), 8, .inr (.inr (.inr (.inr fu))))), ((au k), .inr (1, [.int (nI k), .int ns, .int (a1 k), .long (lN uo), .long ul, .long (lN uv), .int (a5 k), .int (a6 k), .int (a7 k), .int (a8 k)]))]) [22, 23, 25 + k] hn9 hC9
  refine vp_callSi (W.runV (As := [.int (nI k)]) (rest := []) ⟨hx, hb, hml, hown, hts⟩ (c_D_blocked1 l G ct H.size hd us op n ck fu (au k) k (nI k) ns (a1 k) uo ul uv (a5 k) (a6 k) (a7 k) (a8 k) d_hk d_hfu) (tb_V hw cy_D_blocked ww_168 ww_169 ww_170 rfl rfl ⟨Nat.le_of_ble_eq_true rfl, Nat.le_of_ble_eq_true rfl⟩) (wk_preV (ci := 0) (q0 := 0) hPc hK hDc rfl rfl) rfl rfl hl.1 rfl (lv_room (Nat.le_of_ble_eq_true rfl)) d_L_law_918 ⟨by omega, by omega⟩) (fun r1016 er1016 => ?_)
  rw [er1016]
  refine lv_aload_n hx hb d_L_law_921 rfl (lv_at hl 2 rfl) ?_
  refine lv_aload_n hx hb d_L_law_922 rfl (lv_at hl 4 rfl) ?_
  refine lv_iload hx hb d_L_law_923 (lv_at hl 0 rfl) ?_
  refine lv_iconst (v := 1) hx hb d_L_law_925 (by decide) ?_
  refine lv_iadd hx hb d_L_law_926 ?_
  refine sl_ld (j := iv) (d := 1) hx hb hX hbl hbA hS hL (by omega) d_L_law_927 ?_
  refine tp_i (hv1) ?_
  have hC9 : List.map (fun i => ((lw_W ct hd us op hm qo qa fu au ns n ck n ck th hh a1 a2 a3 a4 a5 a6 a7 a8 a9 b0 b1 b2 b3 b4 b5 b6 b7 b8 b9 b10 og fo ad eu es) : va_W)[i]?) [0, 5, 8] = List.map some ([(hm, .inr (4, [.int th, .long ns.toInt64, .int ck, .long hh, .ref (qa 1), .ref (qa 2), .ref (qa 3), .ref (qa 4), .ref (qa 5), .ref (qa 6), .ref (qa 7), .ref (qa 8), .int (nI n), .ref (qa 9), .ref (qa 10), .ref (qa 11), .ref (qa 12), .ref (qa 13), .ref (qa 14), .ref (qa 15), .ref (qa 16), .ref (qa 17), .ref (qa 18), .ref (qa 19), .ref (qa 20)])), ((qa 5), .inl ((ct 0), 8, .inl a5)), ((qa 8), .inl ((ct 0), 8, .inl a8))] : va_W) := (wc_c rfl (wc_c rfl (wc_c rfl rfl)))
  have hn9 : va_nd [0, 5, 8] = true := by decide
  have hPc : va_P G classes [(hm, .inr (4, [.int th, .long ns.toInt64, .int ck, .long hh, .ref (qa 1), .ref (qa 2), .ref (qa 3), .ref (qa 4), .ref (qa 5), .ref (qa 6), .ref (qa 7), .ref (qa 8), .int (nI n), .ref (qa 9), .ref (qa 10), .ref (qa 11), .ref (qa 12), .ref (qa 13), .ref (qa 14), .ref (qa 15), .ref (qa 16), .ref (qa 17), .ref (qa 18), .ref (qa 19), .ref (qa 20)])), ((qa 5), .inl ((ct 0), 8, .inl a5)), ((qa 8), .inl ((ct 0), 8, .inl a8))] H := lp_sub hP [0, 5, 8] hC9
  have hDc := hD.sub (ws' := [(hm, .inr (4, [.int th, .long ns.toInt64, .int ck, .long hh, .ref (qa 1), .ref (qa 2), .ref (qa 3), .ref (qa 4), .ref (qa 5), .ref (qa 6), .ref (qa 7), .ref (qa 8), .int (nI n), .ref (qa 9), .ref (qa 10), .ref (qa 11), .ref (qa 12), .ref (qa 13), .ref (qa 14), .ref (qa 15), .ref (qa 16), .ref (qa 17), .ref (qa 18), .ref (qa 19), .ref (qa 20)])), ((qa 5), .inl ((ct 0), 8, .inl a5)), ((qa 8), .inl ((ct 0), 8, .inl a8))]) [0, 5, 8] hn9 hC9
  refine wk_i (va_runV (As := [.int (nI k)]) (rest := [.int (if us_bl (a5 k) (a8 k) ck then 1 else 0)]) ⟨hx, hb, hml, hown, hts⟩ (c_M_blocked1 l G ct H.size hm th ns.toInt64 ck hh (qa 1) (qa 2) (qa 3) (qa 4) (qa 5) (qa 6) (qa 7) (qa 8) (qa 9) (qa 10) (qa 11) (qa 12) (qa 13) (qa 14) (qa 15) (qa 16) (qa 17) (qa 18) (qa 19) (qa 20) n a5 a8 k m_hk) (tb_V hw cy_M_blocked ww_872 ww_873 ww_874 rfl rfl ⟨Nat.le_of_ble_eq_true rfl, Nat.le_of_ble_eq_true rfl⟩) (wk_preV (ci := 4) (q0 := 0) hPc hK hDc rfl rfl) rfl rfl hl.1 rfl (lv_room (Nat.le_of_ble_eq_true rfl)) d_L_law_928 ⟨by omega, by omega⟩) hP hD hS hA [0, 5, 8] hn9 hC9 (fun _ => by simp only [List.map_cons, List.map_nil]) (fun _ H locs _ hP hD hS => ?_)
  have hW9 : wk_sets ((lw_W ct hd us op hm qo qa fu au ns n ck n ck th hh a1 a2 a3 a4 a5 a6 a7 a8 a9 b0 b1 b2 b3 b4 b5 b6 b7 b8 b9 b10 og fo ad eu es) : va_W) [0, 5, 8] ([(hm, .inr (4, [.int 0, .long ns.toInt64, .int ck, .long hh, .ref (qa 1), .ref (qa 2), .ref (qa 3), .ref (qa 4), .ref (qa 5), .ref (qa 6), .ref (qa 7), .ref (qa 8), .int (nI n), .ref (qa 9), .ref (qa 10), .ref (qa 11), .ref (qa 12), .ref (qa 13), .ref (qa 14), .ref (qa 15), .ref (qa 16), .ref (qa 17), .ref (qa 18), .ref (qa 19), .ref (qa 20)])), ((qa 5), .inl ((ct 0), 8, .inl a5)), ((qa 8), .inl ((ct 0), 8, .inl a8))] : va_W) = ((lw_W ct hd us op hm qo qa fu au ns n ck n ck 0 hh a1 a2 a3 a4 a5 a6 a7 a8 a9 b0 b1 b2 b3 b4 b5 b6 b7 b8 b9 b10 og fo ad eu es) : va_W) := (ws_c (ws' := (lw_W ct hd us op hm qo qa fu au ns n ck n ck 0 hh a1 a2 a3 a4 a5 a6 a7 a8 a9 b0 b1 b2 b3 b4 b5 b6 b7 b8 b9 b10 og fo ad eu es)) rfl (ws_k rfl (ws_k rfl rfl)))
  have hP : va_P G classes (lw_W ct hd us op hm qo qa fu au ns n ck n ck 0 hh a1 a2 a3 a4 a5 a6 a7 a8 a9 b0 b1 b2 b3 b4 b5 b6 b7 b8 b9 b10 og fo ad eu es) H := lp_P hW9 hP
  have hD : va_D A (lw_W ct hd us op hm qo qa fu au ns n ck n ck 0 hh a1 a2 a3 a4 a5 a6 a7 a8 a9 b0 b1 b2 b3 b4 b5 b6 b7 b8 b9 b10 og fo ad eu es) := lp_D hW9 hD
  refine lv_icmp_eq (tgt := 1005) hx hb d_L_law_931 (by decide) (fun h1017 => ?_) (fun h1017 => ?_)
  · refine W.widen (k := cells + 1) (n := slots + 13) (by omega) (by omega) ?_
    exact kk n ck 0 hh a1 a2 a3 a4 a5 a6 a7 a8 a9 b0 b1 b2 b3 b4 b5 b6 b7 b8 b9 b10 og fo ad eu es H locs _ hnew hP hD hS (lv_sub hl [0, 1, 2, 3, 4] rfl)
  · exact absurd hval h1017
set_option maxHeartbeats 4000000 in
set_option maxRecDepth 100000 in
theorem lq_blocked0  (C0 : lc_C p l s m meth c b L xs G ct A) (hiv : iv + 7 ≤ L) (hcc : cells + 1 ≤ room_1.cells) (hzz : slots + 13 ≤ room_1.slots)
    (hP : va_P G classes (lw_W ct hd us op hm qo qa fu au ns n ck n ck th hh a1 a2 a3 a4 a5 a6 a7 a8 a9 b0 b1 b2 b3 b4 b5 b6 b7 b8 b9 b10 og fo ad eu es) H) (hD : va_D A (lw_W ct hd us op hm qo qa fu au ns n ck n ck th hh a1 a2 a3 a4 a5 a6 a7 a8 a9 b0 b1 b2 b3 b4 b5 b6 b7 b8 b9 b10 og fo ad eu es)) (hS : va_S A s.heap H locs) (hl : lv_has ls 8 [(4, .int (nI iv)), (3, .ref qo), (2, .ref hm), (1, .ref hd), (0, .ref b)])
    (kk : lc_K p l e s m below meth c b L xs G ct A hd us op hm qo qa fu au ns iv (cells + 1) (slots + 13) Q)
     (d_hno : ¬ us_in (xs (iv + 1))) (m_hno : ¬ us_in (xs (iv + 1)))  (hnew : li_R fu au ns n a1 a2 a3 a4 a5 a6 a7 a8 a9 b0 b1 b2 b3 b4 b5 b6 b7 b8 b9 b10 fo ad eu es)  : W p l e room_1 s m #[Value.ref b] below meth c H locs cells slots Q (F0 m 911 ls []) := by
  obtain ⟨hx, hb, hr, hml, hown, hw, hK, hZ, hR, hN, hfl, hA, hbA, hX, hbl, hL, hlocks⟩ := C0
  have hts := hw
  have hP : va_P G classes (lw_W ct hd us op hm qo qa fu au ns n ck n ck th hh a1 a2 a3 a4 a5 a6 a7 a8 a9 b0 b1 b2 b3 b4 b5 b6 b7 b8 b9 b10 og fo ad eu es) H := hP
  have hD : va_D A (lw_W ct hd us op hm qo qa fu au ns n ck n ck th hh a1 a2 a3 a4 a5 a6 a7 a8 a9 b0 b1 b2 b3 b4 b5 b6 b7 b8 b9 b10 og fo ad eu es) := hD
  refine lv_aload_n hx hb d_L_law_911 rfl (lv_at hl 3 rfl) ?_
  refine lv_aload_n hx hb d_L_law_912 rfl (lv_at hl 4 rfl) ?_
  refine lv_iload hx hb d_L_law_913 (lv_at hl 0 rfl) ?_
  refine lv_iconst (v := 1) hx hb d_L_law_915 (by decide) ?_
  refine lv_iadd hx hb d_L_law_916 ?_
  refine sl_ld (j := iv) (d := 1) hx hb hX hbl hbA hS hL (by omega) d_L_law_917 ?_
  have hC9 : List.map (fun i => ((lw_W ct hd us op hm qo qa fu au ns n ck n ck th hh a1 a2 a3 a4 a5 a6 a7 a8 a9 b0 b1 b2 b3 b4 b5 b6 b7 b8 b9 b10 og fo ad eu es) : va_W)[i]?) [22] = List.map some ([(hd, .inr (0, [.ref us, .ref op, .int (nI n), .int ck]))] : va_W) := (wc_c rfl rfl)
  have hn9 : va_nd [22] = true := by decide
  have hPc : va_P G classes [(hd, .inr (0, [.ref us, .ref op, .int (nI n), .int ck]))] H := lp_sub hP [22] hC9
  have hDc := hD.sub (ws' := [(hd, .inr (0, [.ref us, .ref op, .int (nI n), .int ck]))]) [22] hn9 hC9
  refine vp_callSi (W.runV (As := [.int (xs (iv + 1))]) (rest := []) ⟨hx, hb, hml, hown, hts⟩ (c_D_blocked0 l G ct H.size hd us op n ck (xs (iv + 1)) d_hno) (tb_V hw cy_D_blocked ww_168 ww_169 ww_170 rfl rfl ⟨Nat.le_of_ble_eq_true rfl, Nat.le_of_ble_eq_true rfl⟩) (wk_preV (ci := 0) (q0 := 0) hPc hK hDc rfl rfl) rfl rfl hl.1 rfl (lv_room (Nat.le_of_ble_eq_true rfl)) d_L_law_918 ⟨by omega, by omega⟩) (fun r1018 er1018 => ?_)
  rw [er1018]
  refine lv_aload_n hx hb d_L_law_921 rfl (lv_at hl 2 rfl) ?_
  refine lv_aload_n hx hb d_L_law_922 rfl (lv_at hl 4 rfl) ?_
  refine lv_iload hx hb d_L_law_923 (lv_at hl 0 rfl) ?_
  refine lv_iconst (v := 1) hx hb d_L_law_925 (by decide) ?_
  refine lv_iadd hx hb d_L_law_926 ?_
  refine sl_ld (j := iv) (d := 1) hx hb hX hbl hbA hS hL (by omega) d_L_law_927 ?_
  have hC9 : List.map (fun i => ((lw_W ct hd us op hm qo qa fu au ns n ck n ck th hh a1 a2 a3 a4 a5 a6 a7 a8 a9 b0 b1 b2 b3 b4 b5 b6 b7 b8 b9 b10 og fo ad eu es) : va_W)[i]?) [0] = List.map some ([(hm, .inr (4, [.int th, .long ns.toInt64, .int ck, .long hh, .ref (qa 1), .ref (qa 2), .ref (qa 3), .ref (qa 4), .ref (qa 5), .ref (qa 6), .ref (qa 7), .ref (qa 8), .int (nI n), .ref (qa 9), .ref (qa 10), .ref (qa 11), .ref (qa 12), .ref (qa 13), .ref (qa 14), .ref (qa 15), .ref (qa 16), .ref (qa 17), .ref (qa 18), .ref (qa 19), .ref (qa 20)]))] : va_W) := (wc_c rfl rfl)
  have hn9 : va_nd [0] = true := by decide
  have hPc : va_P G classes [(hm, .inr (4, [.int th, .long ns.toInt64, .int ck, .long hh, .ref (qa 1), .ref (qa 2), .ref (qa 3), .ref (qa 4), .ref (qa 5), .ref (qa 6), .ref (qa 7), .ref (qa 8), .int (nI n), .ref (qa 9), .ref (qa 10), .ref (qa 11), .ref (qa 12), .ref (qa 13), .ref (qa 14), .ref (qa 15), .ref (qa 16), .ref (qa 17), .ref (qa 18), .ref (qa 19), .ref (qa 20)]))] H := lp_sub hP [0] hC9
  have hDc := hD.sub (ws' := [(hm, .inr (4, [.int th, .long ns.toInt64, .int ck, .long hh, .ref (qa 1), .ref (qa 2), .ref (qa 3), .ref (qa 4), .ref (qa 5), .ref (qa 6), .ref (qa 7), .ref (qa 8), .int (nI n), .ref (qa 9), .ref (qa 10), .ref (qa 11), .ref (qa 12), .ref (qa 13), .ref (qa 14), .ref (qa 15), .ref (qa 16), .ref (qa 17), .ref (qa 18), .ref (qa 19), .ref (qa 20)]))]) [0] hn9 hC9
  refine wk_i (va_runV (As := [.int (xs (iv + 1))]) (rest := [.int 0]) ⟨hx, hb, hml, hown, hts⟩ (c_M_blocked0 l G ct H.size hm th ns.toInt64 ck hh (qa 1) (qa 2) (qa 3) (qa 4) (qa 5) (qa 6) (qa 7) (qa 8) (qa 9) (qa 10) (qa 11) (qa 12) (qa 13) (qa 14) (qa 15) (qa 16) (qa 17) (qa 18) (qa 19) (qa 20) n (xs (iv + 1)) m_hno) (tb_V hw cy_M_blocked ww_872 ww_873 ww_874 rfl rfl ⟨Nat.le_of_ble_eq_true rfl, Nat.le_of_ble_eq_true rfl⟩) (wk_preV (ci := 4) (q0 := 0) hPc hK hDc rfl rfl) rfl rfl hl.1 rfl (lv_room (Nat.le_of_ble_eq_true rfl)) d_L_law_928 ⟨by omega, by omega⟩) hP hD hS hA [0] hn9 hC9 (fun _ => by simp only [List.map_cons, List.map_nil]) (fun _ H locs _ hP hD hS => ?_)
  have hW9 : wk_sets ((lw_W ct hd us op hm qo qa fu au ns n ck n ck th hh a1 a2 a3 a4 a5 a6 a7 a8 a9 b0 b1 b2 b3 b4 b5 b6 b7 b8 b9 b10 og fo ad eu es) : va_W) [0] ([(hm, .inr (4, [.int 0, .long ns.toInt64, .int ck, .long hh, .ref (qa 1), .ref (qa 2), .ref (qa 3), .ref (qa 4), .ref (qa 5), .ref (qa 6), .ref (qa 7), .ref (qa 8), .int (nI n), .ref (qa 9), .ref (qa 10), .ref (qa 11), .ref (qa 12), .ref (qa 13), .ref (qa 14), .ref (qa 15), .ref (qa 16), .ref (qa 17), .ref (qa 18), .ref (qa 19), .ref (qa 20)]))] : va_W) = ((lw_W ct hd us op hm qo qa fu au ns n ck n ck 0 hh a1 a2 a3 a4 a5 a6 a7 a8 a9 b0 b1 b2 b3 b4 b5 b6 b7 b8 b9 b10 og fo ad eu es) : va_W) := (ws_c (ws' := (lw_W ct hd us op hm qo qa fu au ns n ck n ck 0 hh a1 a2 a3 a4 a5 a6 a7 a8 a9 b0 b1 b2 b3 b4 b5 b6 b7 b8 b9 b10 og fo ad eu es)) rfl rfl)
  have hP : va_P G classes (lw_W ct hd us op hm qo qa fu au ns n ck n ck 0 hh a1 a2 a3 a4 a5 a6 a7 a8 a9 b0 b1 b2 b3 b4 b5 b6 b7 b8 b9 b10 og fo ad eu es) H := lp_P hW9 hP
  have hD : va_D A (lw_W ct hd us op hm qo qa fu au ns n ck n ck 0 hh a1 a2 a3 a4 a5 a6 a7 a8 a9 b0 b1 b2 b3 b4 b5 b6 b7 b8 b9 b10 og fo ad eu es) := lp_D hW9 hD
  refine lv_icmp_eq (tgt := 1005) hx hb d_L_law_931 (by decide) (fun h1019 => ?_) (fun h1019 => ?_)
  · refine W.widen (k := cells + 1) (n := slots + 13) (by omega) (by omega) ?_
    exact kk n ck 0 hh a1 a2 a3 a4 a5 a6 a7 a8 a9 b0 b1 b2 b3 b4 b5 b6 b7 b8 b9 b10 og fo ad eu es H locs _ hnew hP hD hS (lv_sub hl [0, 1, 2, 3, 4] rfl)
  · exact absurd h1019 (by decide)
set_option maxHeartbeats 4000000 in
set_option maxRecDepth 100000 in
theorem lq_sessions  (C0 : lc_C p l s m meth c b L xs G ct A) (hiv : iv + 7 ≤ L) (hcc : cells + 1 ≤ room_1.cells) (hzz : slots + 13 ≤ room_1.slots)
    (hP : va_P G classes (lw_W ct hd us op hm qo qa fu au ns n ck n ck th hh a1 a2 a3 a4 a5 a6 a7 a8 a9 b0 b1 b2 b3 b4 b5 b6 b7 b8 b9 b10 og fo ad eu es) H) (hD : va_D A (lw_W ct hd us op hm qo qa fu au ns n ck n ck th hh a1 a2 a3 a4 a5 a6 a7 a8 a9 b0 b1 b2 b3 b4 b5 b6 b7 b8 b9 b10 og fo ad eu es)) (hS : va_S A s.heap H locs) (hl : lv_has ls 8 [(4, .int (nI iv)), (3, .ref qo), (2, .ref hm), (1, .ref hd), (0, .ref b)])
    (kk : lc_K p l e s m below meth c b L xs G ct A hd us op hm qo qa fu au ns iv (cells + 1) (slots + 13) Q)
       (hnew : li_R fu au ns n a1 a2 a3 a4 a5 a6 a7 a8 a9 b0 b1 b2 b3 b4 b5 b6 b7 b8 b9 b10 fo ad eu es)  : W p l e room_1 s m #[Value.ref b] below meth c H locs cells slots Q (F0 m 992 ls []) := by
  obtain ⟨hx, hb, hr, hml, hown, hw, hK, hZ, hR, hN, hfl, hA, hbA, hX, hbl, hL, hlocks⟩ := C0
  have hts := hw
  have hP : va_P G classes (lw_W ct hd us op hm qo qa fu au ns n ck n ck th hh a1 a2 a3 a4 a5 a6 a7 a8 a9 b0 b1 b2 b3 b4 b5 b6 b7 b8 b9 b10 og fo ad eu es) H := hP
  have hD : va_D A (lw_W ct hd us op hm qo qa fu au ns n ck n ck th hh a1 a2 a3 a4 a5 a6 a7 a8 a9 b0 b1 b2 b3 b4 b5 b6 b7 b8 b9 b10 og fo ad eu es) := hD
  refine lv_aload_n hx hb d_L_law_992 rfl (lv_at hl 3 rfl) ?_
  have hC9 : List.map (fun i => ((lw_W ct hd us op hm qo qa fu au ns n ck n ck th hh a1 a2 a3 a4 a5 a6 a7 a8 a9 b0 b1 b2 b3 b4 b5 b6 b7 b8 b9 b10 og fo ad eu es) : va_W)[i]?) [22] = List.map some ([(hd, .inr (0, [.ref us, .ref op, .int (nI n), .int ck]))] : va_W) := (wc_c rfl rfl)
  have hn9 : va_nd [22] = true := by decide
  have hPc : va_P G classes [(hd, .inr (0, [.ref us, .ref op, .int (nI n), .int ck]))] H := lp_sub hP [22] hC9
  have hDc := hD.sub (ws' := [(hd, .inr (0, [.ref us, .ref op, .int (nI n), .int ck]))]) [22] hn9 hC9
  refine vp_callSi (W.runV (As := []) (rest := []) ⟨hx, hb, hml, hown, hts⟩ (c_D_sessions l G ct H.size hd us op n ck) (tb_V hw cy_D_sessions ww_176 ww_177 ww_178 rfl rfl ⟨Nat.le_of_ble_eq_true rfl, Nat.le_of_ble_eq_true rfl⟩) (wk_preV (ci := 0) (q0 := 0) hPc hK hDc rfl rfl) rfl rfl hl.1 rfl (lv_room (Nat.le_of_ble_eq_true rfl)) d_L_law_993 ⟨by omega, by omega⟩) (fun r1020 er1020 => ?_)
  rw [er1020]
  refine lv_aload_n hx hb d_L_law_996 rfl (lv_at hl 2 rfl) ?_
  have hC9 : List.map (fun i => ((lw_W ct hd us op hm qo qa fu au ns n ck n ck th hh a1 a2 a3 a4 a5 a6 a7 a8 a9 b0 b1 b2 b3 b4 b5 b6 b7 b8 b9 b10 og fo ad eu es) : va_W)[i]?) [0] = List.map some ([(hm, .inr (4, [.int th, .long ns.toInt64, .int ck, .long hh, .ref (qa 1), .ref (qa 2), .ref (qa 3), .ref (qa 4), .ref (qa 5), .ref (qa 6), .ref (qa 7), .ref (qa 8), .int (nI n), .ref (qa 9), .ref (qa 10), .ref (qa 11), .ref (qa 12), .ref (qa 13), .ref (qa 14), .ref (qa 15), .ref (qa 16), .ref (qa 17), .ref (qa 18), .ref (qa 19), .ref (qa 20)]))] : va_W) := (wc_c rfl rfl)
  have hn9 : va_nd [0] = true := by decide
  have hPc : va_P G classes [(hm, .inr (4, [.int th, .long ns.toInt64, .int ck, .long hh, .ref (qa 1), .ref (qa 2), .ref (qa 3), .ref (qa 4), .ref (qa 5), .ref (qa 6), .ref (qa 7), .ref (qa 8), .int (nI n), .ref (qa 9), .ref (qa 10), .ref (qa 11), .ref (qa 12), .ref (qa 13), .ref (qa 14), .ref (qa 15), .ref (qa 16), .ref (qa 17), .ref (qa 18), .ref (qa 19), .ref (qa 20)]))] H := lp_sub hP [0] hC9
  have hDc := hD.sub (ws' := [(hm, .inr (4, [.int th, .long ns.toInt64, .int ck, .long hh, .ref (qa 1), .ref (qa 2), .ref (qa 3), .ref (qa 4), .ref (qa 5), .ref (qa 6), .ref (qa 7), .ref (qa 8), .int (nI n), .ref (qa 9), .ref (qa 10), .ref (qa 11), .ref (qa 12), .ref (qa 13), .ref (qa 14), .ref (qa 15), .ref (qa 16), .ref (qa 17), .ref (qa 18), .ref (qa 19), .ref (qa 20)]))]) [0] hn9 hC9
  refine wk_i (va_runV (As := []) (rest := [.int (nI n)]) ⟨hx, hb, hml, hown, hts⟩ (c_M_sessions l G ct H.size hm th ns.toInt64 ck hh (qa 1) (qa 2) (qa 3) (qa 4) (qa 5) (qa 6) (qa 7) (qa 8) (qa 9) (qa 10) (qa 11) (qa 12) (qa 13) (qa 14) (qa 15) (qa 16) (qa 17) (qa 18) (qa 19) (qa 20) n) (tb_V hw cy_M_sessions ww_880 ww_881 ww_882 rfl rfl ⟨Nat.le_of_ble_eq_true rfl, Nat.le_of_ble_eq_true rfl⟩) (wk_preV (ci := 4) (q0 := 0) hPc hK hDc rfl rfl) rfl rfl hl.1 rfl (lv_room (Nat.le_of_ble_eq_true rfl)) d_L_law_997 ⟨by omega, by omega⟩) hP hD hS hA [0] hn9 hC9 (fun _ => by simp only [List.map_cons, List.map_nil]) (fun _ H locs _ hP hD hS => ?_)
  have hW9 : wk_sets ((lw_W ct hd us op hm qo qa fu au ns n ck n ck th hh a1 a2 a3 a4 a5 a6 a7 a8 a9 b0 b1 b2 b3 b4 b5 b6 b7 b8 b9 b10 og fo ad eu es) : va_W) [0] ([(hm, .inr (4, [.int 0, .long ns.toInt64, .int ck, .long hh, .ref (qa 1), .ref (qa 2), .ref (qa 3), .ref (qa 4), .ref (qa 5), .ref (qa 6), .ref (qa 7), .ref (qa 8), .int (nI n), .ref (qa 9), .ref (qa 10), .ref (qa 11), .ref (qa 12), .ref (qa 13), .ref (qa 14), .ref (qa 15), .ref (qa 16), .ref (qa 17), .ref (qa 18), .ref (qa 19), .ref (qa 20)]))] : va_W) = ((lw_W ct hd us op hm qo qa fu au ns n ck n ck 0 hh a1 a2 a3 a4 a5 a6 a7 a8 a9 b0 b1 b2 b3 b4 b5 b6 b7 b8 b9 b10 og fo ad eu es) : va_W) := (ws_c (ws' := (lw_W ct hd us op hm qo qa fu au ns n ck n ck 0 hh a1 a2 a3 a4 a5 a6 a7 a8 a9 b0 b1 b2 b3 b4 b5 b6 b7 b8 b9 b10 og fo ad eu es)) rfl rfl)
  have hP : va_P G classes (lw_W ct hd us op hm qo qa fu au ns n ck n ck 0 hh a1 a2 a3 a4 a5 a6 a7 a8 a9 b0 b1 b2 b3 b4 b5 b6 b7 b8 b9 b10 og fo ad eu es) H := lp_P hW9 hP
  have hD : va_D A (lw_W ct hd us op hm qo qa fu au ns n ck n ck 0 hh a1 a2 a3 a4 a5 a6 a7 a8 a9 b0 b1 b2 b3 b4 b5 b6 b7 b8 b9 b10 og fo ad eu es) := lp_D hW9 hD
  refine lv_icmp_eq (tgt := 1005) hx hb d_L_law_1000 (by decide) (fun h1021 => ?_) (fun h1021 => ?_)
  · refine W.widen (k := cells + 1) (n := slots + 13) (by omega) (by omega) ?_
    exact kk n ck 0 hh a1 a2 a3 a4 a5 a6 a7 a8 a9 b0 b1 b2 b3 b4 b5 b6 b7 b8 b9 b10 og fo ad eu es H locs _ hnew hP hD hS (lv_sub hl [0, 1, 2, 3, 4] rfl)
  · exact absurd rfl h1021
set_option maxHeartbeats 4000000 in
set_option maxRecDepth 100000 in
theorem lq_message0  (C0 : lc_C p l s m meth c b L xs G ct A) (hiv : iv + 7 ≤ L) (hcc : cells + 1 ≤ room_1.cells) (hzz : slots + 13 ≤ room_1.slots)
    (hP : va_P G classes (lw_W ct hd us op hm qo qa fu au ns n ck n ck th hh a1 a2 a3 a4 a5 a6 a7 a8 a9 b0 b1 b2 b3 b4 b5 b6 b7 b8 b9 b10 og fo ad eu es) H) (hD : va_D A (lw_W ct hd us op hm qo qa fu au ns n ck n ck th hh a1 a2 a3 a4 a5 a6 a7 a8 a9 b0 b1 b2 b3 b4 b5 b6 b7 b8 b9 b10 og fo ad eu es)) (hS : va_S A s.heap H locs) (hl : lv_has ls 8 [(4, .int (nI iv)), (3, .ref qo), (2, .ref hm), (1, .ref hd), (0, .ref b)])
    (kk : lc_K p l e s m below meth c b L xs G ct A hd us op hm qo qa fu au ns iv (cells + 1) (slots + 13) Q)
     (d_hno : ¬ th_in (xs (iv + 1)) n) (m_hno : ¬ th_in (xs (iv + 1)) n)  (hnew : li_R fu au ns n a1 a2 a3 a4 a5 a6 a7 a8 a9 b0 b1 b2 b3 b4 b5 b6 b7 b8 b9 b10 fo ad eu es)  : W p l e room_1 s m #[Value.ref b] below meth c H locs cells slots Q (F0 m 805 ls []) := by
  obtain ⟨hx, hb, hr, hml, hown, hw, hK, hZ, hR, hN, hfl, hA, hbA, hX, hbl, hL, hlocks⟩ := C0
  have hts := hw
  have hP : va_P G classes (lw_W ct hd us op hm qo qa fu au ns n ck n ck th hh a1 a2 a3 a4 a5 a6 a7 a8 a9 b0 b1 b2 b3 b4 b5 b6 b7 b8 b9 b10 og fo ad eu es) H := hP
  have hD : va_D A (lw_W ct hd us op hm qo qa fu au ns n ck n ck th hh a1 a2 a3 a4 a5 a6 a7 a8 a9 b0 b1 b2 b3 b4 b5 b6 b7 b8 b9 b10 og fo ad eu es) := hD
  refine lv_aload_n hx hb d_L_law_805 rfl (lv_at hl 3 rfl) ?_
  refine lv_aload_n hx hb d_L_law_806 rfl (lv_at hl 4 rfl) ?_
  refine lv_iload hx hb d_L_law_807 (lv_at hl 0 rfl) ?_
  refine lv_iconst (v := 1) hx hb d_L_law_809 (by decide) ?_
  refine lv_iadd hx hb d_L_law_810 ?_
  refine sl_ld (j := iv) (d := 1) hx hb hX hbl hbA hS hL (by omega) d_L_law_811 ?_
  have hC9 : List.map (fun i => ((lw_W ct hd us op hm qo qa fu au ns n ck n ck th hh a1 a2 a3 a4 a5 a6 a7 a8 a9 b0 b1 b2 b3 b4 b5 b6 b7 b8 b9 b10 og fo ad eu es) : va_W)[i]?) [22] = List.map some ([(hd, .inr (0, [.ref us, .ref op, .int (nI n), .int ck]))] : va_W) := (wc_c rfl rfl)
  have hn9 : va_nd [22] = true := by decide
  have hPc : va_P G classes [(hd, .inr (0, [.ref us, .ref op, .int (nI n), .int ck]))] H := lp_sub hP [22] hC9
  have hDc := hD.sub (ws' := [(hd, .inr (0, [.ref us, .ref op, .int (nI n), .int ck]))]) [22] hn9 hC9
  refine vp_callSl (W.runV (As := [.int (xs (iv + 1))]) (rest := []) ⟨hx, hb, hml, hown, hts⟩ (c_D_message0 l G ct H.size hd us op n ck (xs (iv + 1)) d_hno) (tb_V hw cy_D_message ww_146 ww_147 ww_148 rfl rfl ⟨Nat.le_of_ble_eq_true rfl, Nat.le_of_ble_eq_true rfl⟩) (wk_preV (ci := 0) (q0 := 0) hPc hK hDc rfl rfl) rfl rfl hl.1 rfl (lv_room (Nat.le_of_ble_eq_true rfl)) d_L_law_812 ⟨by omega, by omega⟩) (fun r1022 er1022 => ?_)
  rw [er1022]
  refine lv_aload_n hx hb d_L_law_815 rfl (lv_at hl 2 rfl) ?_
  refine lv_aload_n hx hb d_L_law_816 rfl (lv_at hl 4 rfl) ?_
  refine lv_iload hx hb d_L_law_817 (lv_at hl 0 rfl) ?_
  refine lv_iconst (v := 1) hx hb d_L_law_819 (by decide) ?_
  refine lv_iadd hx hb d_L_law_820 ?_
  refine sl_ld (j := iv) (d := 1) hx hb hX hbl hbA hS hL (by omega) d_L_law_821 ?_
  have hC9 : List.map (fun i => ((lw_W ct hd us op hm qo qa fu au ns n ck n ck th hh a1 a2 a3 a4 a5 a6 a7 a8 a9 b0 b1 b2 b3 b4 b5 b6 b7 b8 b9 b10 og fo ad eu es) : va_W)[i]?) [0] = List.map some ([(hm, .inr (4, [.int th, .long ns.toInt64, .int ck, .long hh, .ref (qa 1), .ref (qa 2), .ref (qa 3), .ref (qa 4), .ref (qa 5), .ref (qa 6), .ref (qa 7), .ref (qa 8), .int (nI n), .ref (qa 9), .ref (qa 10), .ref (qa 11), .ref (qa 12), .ref (qa 13), .ref (qa 14), .ref (qa 15), .ref (qa 16), .ref (qa 17), .ref (qa 18), .ref (qa 19), .ref (qa 20)]))] : va_W) := (wc_c rfl rfl)
  have hn9 : va_nd [0] = true := by decide
  have hPc : va_P G classes [(hm, .inr (4, [.int th, .long ns.toInt64, .int ck, .long hh, .ref (qa 1), .ref (qa 2), .ref (qa 3), .ref (qa 4), .ref (qa 5), .ref (qa 6), .ref (qa 7), .ref (qa 8), .int (nI n), .ref (qa 9), .ref (qa 10), .ref (qa 11), .ref (qa 12), .ref (qa 13), .ref (qa 14), .ref (qa 15), .ref (qa 16), .ref (qa 17), .ref (qa 18), .ref (qa 19), .ref (qa 20)]))] H := lp_sub hP [0] hC9
  have hDc := hD.sub (ws' := [(hm, .inr (4, [.int th, .long ns.toInt64, .int ck, .long hh, .ref (qa 1), .ref (qa 2), .ref (qa 3), .ref (qa 4), .ref (qa 5), .ref (qa 6), .ref (qa 7), .ref (qa 8), .int (nI n), .ref (qa 9), .ref (qa 10), .ref (qa 11), .ref (qa 12), .ref (qa 13), .ref (qa 14), .ref (qa 15), .ref (qa 16), .ref (qa 17), .ref (qa 18), .ref (qa 19), .ref (qa 20)]))]) [0] hn9 hC9
  refine wk_l (va_runV (As := [.int (xs (iv + 1))]) (rest := [.long 0]) ⟨hx, hb, hml, hown, hts⟩ (c_M_message0 l G ct H.size hm th ns.toInt64 ck hh (qa 1) (qa 2) (qa 3) (qa 4) (qa 5) (qa 6) (qa 7) (qa 8) (qa 9) (qa 10) (qa 11) (qa 12) (qa 13) (qa 14) (qa 15) (qa 16) (qa 17) (qa 18) (qa 19) (qa 20) n (xs (iv + 1)) m_hno) (tb_V hw cy_M_message ww_860 ww_861 ww_862 rfl rfl ⟨Nat.le_of_ble_eq_true rfl, Nat.le_of_ble_eq_true rfl⟩) (wk_preV (ci := 4) (q0 := 0) hPc hK hDc rfl rfl) rfl rfl hl.1 rfl (lv_room (Nat.le_of_ble_eq_true rfl)) d_L_law_822 ⟨by omega, by omega⟩) hP hD hS hA [0] hn9 hC9 (fun _ => by simp only [List.map_cons, List.map_nil]) (fun _ H locs _ hP hD hS => ?_)
  have hW9 : wk_sets ((lw_W ct hd us op hm qo qa fu au ns n ck n ck th hh a1 a2 a3 a4 a5 a6 a7 a8 a9 b0 b1 b2 b3 b4 b5 b6 b7 b8 b9 b10 og fo ad eu es) : va_W) [0] ([(hm, .inr (4, [.int 0, .long ns.toInt64, .int ck, .long hh, .ref (qa 1), .ref (qa 2), .ref (qa 3), .ref (qa 4), .ref (qa 5), .ref (qa 6), .ref (qa 7), .ref (qa 8), .int (nI n), .ref (qa 9), .ref (qa 10), .ref (qa 11), .ref (qa 12), .ref (qa 13), .ref (qa 14), .ref (qa 15), .ref (qa 16), .ref (qa 17), .ref (qa 18), .ref (qa 19), .ref (qa 20)]))] : va_W) = ((lw_W ct hd us op hm qo qa fu au ns n ck n ck 0 hh a1 a2 a3 a4 a5 a6 a7 a8 a9 b0 b1 b2 b3 b4 b5 b6 b7 b8 b9 b10 og fo ad eu es) : va_W) := (ws_c (ws' := (lw_W ct hd us op hm qo qa fu au ns n ck n ck 0 hh a1 a2 a3 a4 a5 a6 a7 a8 a9 b0 b1 b2 b3 b4 b5 b6 b7 b8 b9 b10 og fo ad eu es)) rfl rfl)
  have hP : va_P G classes (lw_W ct hd us op hm qo qa fu au ns n ck n ck 0 hh a1 a2 a3 a4 a5 a6 a7 a8 a9 b0 b1 b2 b3 b4 b5 b6 b7 b8 b9 b10 og fo ad eu es) H := lp_P hW9 hP
  have hD : va_D A (lw_W ct hd us op hm qo qa fu au ns n ck n ck 0 hh a1 a2 a3 a4 a5 a6 a7 a8 a9 b0 b1 b2 b3 b4 b5 b6 b7 b8 b9 b10 og fo ad eu es) := lp_D hW9 hD
  refine W.lcmp hx hb d_L_law_825 ?_
  refine lv_if_eq (tgt := 1005) hx hb d_L_law_826 (by decide) (fun h1023 => ?_) (fun h1023 => ?_)
  · have h1023 := (lg_cmp_eq _ _).mp h1023
    refine W.widen (k := cells + 1) (n := slots + 13) (by omega) (by omega) ?_
    exact kk n ck 0 hh a1 a2 a3 a4 a5 a6 a7 a8 a9 b0 b1 b2 b3 b4 b5 b6 b7 b8 b9 b10 og fo ad eu es H locs _ hnew hP hD hS (lv_sub hl [0, 1, 2, 3, 4] rfl)
  · have h1023 := fun q => h1023 ((lg_cmp_eq _ _).mpr q)
    exact absurd rfl h1023
set_option maxHeartbeats 4000000 in
set_option maxRecDepth 100000 in
theorem lq_state0  (C0 : lc_C p l s m meth c b L xs G ct A) (hiv : iv + 7 ≤ L) (hcc : cells + 1 ≤ room_1.cells) (hzz : slots + 13 ≤ room_1.slots)
    (hP : va_P G classes (lw_W ct hd us op hm qo qa fu au ns n ck n ck th hh a1 a2 a3 a4 a5 a6 a7 a8 a9 b0 b1 b2 b3 b4 b5 b6 b7 b8 b9 b10 og fo ad eu es) H) (hD : va_D A (lw_W ct hd us op hm qo qa fu au ns n ck n ck th hh a1 a2 a3 a4 a5 a6 a7 a8 a9 b0 b1 b2 b3 b4 b5 b6 b7 b8 b9 b10 og fo ad eu es)) (hS : va_S A s.heap H locs) (hl : lv_has ls 8 [(4, .int (nI iv)), (3, .ref qo), (2, .ref hm), (1, .ref hd), (0, .ref b)])
    (kk : lc_K p l e s m below meth c b L xs G ct A hd us op hm qo qa fu au ns iv (cells + 1) (slots + 13) Q)
     (d_hno : ¬ th_in (xs (iv + 1)) n) (m_hno : ¬ th_in (xs (iv + 1)) n)  (hnew : li_R fu au ns n a1 a2 a3 a4 a5 a6 a7 a8 a9 b0 b1 b2 b3 b4 b5 b6 b7 b8 b9 b10 fo ad eu es)  : W p l e room_1 s m #[Value.ref b] below meth c H locs cells slots Q (F0 m 886 ls []) := by
  obtain ⟨hx, hb, hr, hml, hown, hw, hK, hZ, hR, hN, hfl, hA, hbA, hX, hbl, hL, hlocks⟩ := C0
  have hts := hw
  have hP : va_P G classes (lw_W ct hd us op hm qo qa fu au ns n ck n ck th hh a1 a2 a3 a4 a5 a6 a7 a8 a9 b0 b1 b2 b3 b4 b5 b6 b7 b8 b9 b10 og fo ad eu es) H := hP
  have hD : va_D A (lw_W ct hd us op hm qo qa fu au ns n ck n ck th hh a1 a2 a3 a4 a5 a6 a7 a8 a9 b0 b1 b2 b3 b4 b5 b6 b7 b8 b9 b10 og fo ad eu es) := hD
  refine lv_aload_n hx hb d_L_law_886 rfl (lv_at hl 3 rfl) ?_
  refine lv_aload_n hx hb d_L_law_887 rfl (lv_at hl 4 rfl) ?_
  refine lv_iload hx hb d_L_law_888 (lv_at hl 0 rfl) ?_
  refine lv_iconst (v := 1) hx hb d_L_law_890 (by decide) ?_
  refine lv_iadd hx hb d_L_law_891 ?_
  refine sl_ld (j := iv) (d := 1) hx hb hX hbl hbA hS hL (by omega) d_L_law_892 ?_
  have hC9 : List.map (fun i => ((lw_W ct hd us op hm qo qa fu au ns n ck n ck th hh a1 a2 a3 a4 a5 a6 a7 a8 a9 b0 b1 b2 b3 b4 b5 b6 b7 b8 b9 b10 og fo ad eu es) : va_W)[i]?) [22] = List.map some ([(hd, .inr (0, [.ref us, .ref op, .int (nI n), .int ck]))] : va_W) := (wc_c rfl rfl)
  have hn9 : va_nd [22] = true := by decide
  have hPc : va_P G classes [(hd, .inr (0, [.ref us, .ref op, .int (nI n), .int ck]))] H := lp_sub hP [22] hC9
  have hDc := hD.sub (ws' := [(hd, .inr (0, [.ref us, .ref op, .int (nI n), .int ck]))]) [22] hn9 hC9
  refine vp_callSi (W.runV (As := [.int (xs (iv + 1))]) (rest := []) ⟨hx, hb, hml, hown, hts⟩ (c_D_state0 l G ct H.size hd us op n ck (xs (iv + 1)) d_hno) (tb_V hw cy_D_state ww_158 ww_159 ww_160 rfl rfl ⟨Nat.le_of_ble_eq_true rfl, Nat.le_of_ble_eq_true rfl⟩) (wk_preV (ci := 0) (q0 := 0) hPc hK hDc rfl rfl) rfl rfl hl.1 rfl (lv_room (Nat.le_of_ble_eq_true rfl)) d_L_law_893 ⟨by omega, by omega⟩) (fun r1024 er1024 => ?_)
  rw [er1024]
  refine lv_aload_n hx hb d_L_law_896 rfl (lv_at hl 2 rfl) ?_
  refine lv_aload_n hx hb d_L_law_897 rfl (lv_at hl 4 rfl) ?_
  refine lv_iload hx hb d_L_law_898 (lv_at hl 0 rfl) ?_
  refine lv_iconst (v := 1) hx hb d_L_law_900 (by decide) ?_
  refine lv_iadd hx hb d_L_law_901 ?_
  refine sl_ld (j := iv) (d := 1) hx hb hX hbl hbA hS hL (by omega) d_L_law_902 ?_
  have hC9 : List.map (fun i => ((lw_W ct hd us op hm qo qa fu au ns n ck n ck th hh a1 a2 a3 a4 a5 a6 a7 a8 a9 b0 b1 b2 b3 b4 b5 b6 b7 b8 b9 b10 og fo ad eu es) : va_W)[i]?) [0] = List.map some ([(hm, .inr (4, [.int th, .long ns.toInt64, .int ck, .long hh, .ref (qa 1), .ref (qa 2), .ref (qa 3), .ref (qa 4), .ref (qa 5), .ref (qa 6), .ref (qa 7), .ref (qa 8), .int (nI n), .ref (qa 9), .ref (qa 10), .ref (qa 11), .ref (qa 12), .ref (qa 13), .ref (qa 14), .ref (qa 15), .ref (qa 16), .ref (qa 17), .ref (qa 18), .ref (qa 19), .ref (qa 20)]))] : va_W) := (wc_c rfl rfl)
  have hn9 : va_nd [0] = true := by decide
  have hPc : va_P G classes [(hm, .inr (4, [.int th, .long ns.toInt64, .int ck, .long hh, .ref (qa 1), .ref (qa 2), .ref (qa 3), .ref (qa 4), .ref (qa 5), .ref (qa 6), .ref (qa 7), .ref (qa 8), .int (nI n), .ref (qa 9), .ref (qa 10), .ref (qa 11), .ref (qa 12), .ref (qa 13), .ref (qa 14), .ref (qa 15), .ref (qa 16), .ref (qa 17), .ref (qa 18), .ref (qa 19), .ref (qa 20)]))] H := lp_sub hP [0] hC9
  have hDc := hD.sub (ws' := [(hm, .inr (4, [.int th, .long ns.toInt64, .int ck, .long hh, .ref (qa 1), .ref (qa 2), .ref (qa 3), .ref (qa 4), .ref (qa 5), .ref (qa 6), .ref (qa 7), .ref (qa 8), .int (nI n), .ref (qa 9), .ref (qa 10), .ref (qa 11), .ref (qa 12), .ref (qa 13), .ref (qa 14), .ref (qa 15), .ref (qa 16), .ref (qa 17), .ref (qa 18), .ref (qa 19), .ref (qa 20)]))]) [0] hn9 hC9
  refine wk_i (va_runV (As := [.int (xs (iv + 1))]) (rest := [.int (-1)]) ⟨hx, hb, hml, hown, hts⟩ (c_M_state0 l G ct H.size hm th ns.toInt64 ck hh (qa 1) (qa 2) (qa 3) (qa 4) (qa 5) (qa 6) (qa 7) (qa 8) (qa 9) (qa 10) (qa 11) (qa 12) (qa 13) (qa 14) (qa 15) (qa 16) (qa 17) (qa 18) (qa 19) (qa 20) n (xs (iv + 1)) m_hno) (tb_V hw cy_M_state ww_868 ww_869 ww_870 rfl rfl ⟨Nat.le_of_ble_eq_true rfl, Nat.le_of_ble_eq_true rfl⟩) (wk_preV (ci := 4) (q0 := 0) hPc hK hDc rfl rfl) rfl rfl hl.1 rfl (lv_room (Nat.le_of_ble_eq_true rfl)) d_L_law_903 ⟨by omega, by omega⟩) hP hD hS hA [0] hn9 hC9 (fun _ => by simp only [List.map_cons, List.map_nil]) (fun _ H locs _ hP hD hS => ?_)
  have hW9 : wk_sets ((lw_W ct hd us op hm qo qa fu au ns n ck n ck th hh a1 a2 a3 a4 a5 a6 a7 a8 a9 b0 b1 b2 b3 b4 b5 b6 b7 b8 b9 b10 og fo ad eu es) : va_W) [0] ([(hm, .inr (4, [.int 0, .long ns.toInt64, .int ck, .long hh, .ref (qa 1), .ref (qa 2), .ref (qa 3), .ref (qa 4), .ref (qa 5), .ref (qa 6), .ref (qa 7), .ref (qa 8), .int (nI n), .ref (qa 9), .ref (qa 10), .ref (qa 11), .ref (qa 12), .ref (qa 13), .ref (qa 14), .ref (qa 15), .ref (qa 16), .ref (qa 17), .ref (qa 18), .ref (qa 19), .ref (qa 20)]))] : va_W) = ((lw_W ct hd us op hm qo qa fu au ns n ck n ck 0 hh a1 a2 a3 a4 a5 a6 a7 a8 a9 b0 b1 b2 b3 b4 b5 b6 b7 b8 b9 b10 og fo ad eu es) : va_W) := (ws_c (ws' := (lw_W ct hd us op hm qo qa fu au ns n ck n ck 0 hh a1 a2 a3 a4 a5 a6 a7 a8 a9 b0 b1 b2 b3 b4 b5 b6 b7 b8 b9 b10 og fo ad eu es)) rfl rfl)
  have hP : va_P G classes (lw_W ct hd us op hm qo qa fu au ns n ck n ck 0 hh a1 a2 a3 a4 a5 a6 a7 a8 a9 b0 b1 b2 b3 b4 b5 b6 b7 b8 b9 b10 og fo ad eu es) H := lp_P hW9 hP
  have hD : va_D A (lw_W ct hd us op hm qo qa fu au ns n ck n ck 0 hh a1 a2 a3 a4 a5 a6 a7 a8 a9 b0 b1 b2 b3 b4 b5 b6 b7 b8 b9 b10 og fo ad eu es) := lp_D hW9 hD
  refine lv_icmp_eq (tgt := 1005) hx hb d_L_law_906 (by decide) (fun h1025 => ?_) (fun h1025 => ?_)
  · refine W.widen (k := cells + 1) (n := slots + 13) (by omega) (by omega) ?_
    exact kk n ck 0 hh a1 a2 a3 a4 a5 a6 a7 a8 a9 b0 b1 b2 b3 b4 b5 b6 b7 b8 b9 b10 og fo ad eu es H locs _ hnew hP hD hS (lv_sub hl [0, 1, 2, 3, 4] rfl)
  · exact absurd h1025 (by decide)
set_option maxHeartbeats 4000000 in
set_option maxRecDepth 100000 in
theorem lq_messageC {k : Nat} {u : Nat} {sec : Nat} {x : Nat} {y : Nat} {rc : Nat} {c1 : Int64} {c2 : Int64} (C0 : lc_C p l s m meth c b L xs G ct A) (hiv : iv + 7 ≤ L) (hcc : cells + 1 ≤ room_1.cells) (hzz : slots + 13 ≤ room_1.slots)
    (hP : va_P G classes (lw_W ct hd us op hm qo qa fu au ns n ck n ck th hh a1 a2 a3 a4 a5 a6 a7 a8 a9 b0 b1 b2 b3 b4 b5 b6 b7 b8 b9 b10 og fo ad eu es) H) (hD : va_D A (lw_W ct hd us op hm qo qa fu au ns n ck n ck th hh a1 a2 a3 a4 a5 a6 a7 a8 a9 b0 b1 b2 b3 b4 b5 b6 b7 b8 b9 b10 og fo ad eu es)) (hS : va_S A s.heap H locs) (hl : lv_has ls 8 [(4, .int (nI iv)), (3, .ref qo), (2, .ref hm), (1, .ref hd), (0, .ref b)])
    (kk : lc_K p l e s m below meth c b L xs G ct A hd us op hm qo qa fu au ns iv (cells + 1) (slots + 13) Q)
    (hv1 : xs (iv + 1) = nI k) (hkn : k < n) (hes : es k = .inr (2, [.ref (au u), .int (b0 k), .long (lN sec), .int (b3 k), .int (b2 k), .long (lN x), .long (lN y), .long (b9 k), .long c1, .long c2, .long (b10 k), .long (b5 k), .long (lN rc)])) (d_hn : n ≤ 40) (d_hkn : k < n) (d_hfo : fo k = some (ad k)) (m_hn : n ≤ 40) (m_hkn : k < n)  (hnew : li_R fu au ns n a1 a2 a3 a4 a5 a6 a7 a8 a9 b0 b1 b2 b3 b4 b5 b6 b7 b8 b9 b10 fo ad eu es)  : W p l e room_1 s m #[Value.ref b] below meth c H locs cells slots Q (F0 m 805 ls []) := by
  obtain ⟨hx, hb, hr, hml, hown, hw, hK, hZ, hR, hN, hfl, hA, hbA, hX, hbl, hL, hlocks⟩ := C0
  have hts := hw
  have hP : va_P G classes (lw_W ct hd us op hm qo qa fu au ns n ck n ck th hh a1 a2 a3 a4 a5 a6 a7 a8 a9 b0 b1 b2 b3 b4 b5 b6 b7 b8 b9 b10 og fo ad eu es) H := hP
  have hD : va_D A (lw_W ct hd us op hm qo qa fu au ns n ck n ck th hh a1 a2 a3 a4 a5 a6 a7 a8 a9 b0 b1 b2 b3 b4 b5 b6 b7 b8 b9 b10 og fo ad eu es) := hD
  refine lv_aload_n hx hb d_L_law_805 rfl (lv_at hl 3 rfl) ?_
  refine lv_aload_n hx hb d_L_law_806 rfl (lv_at hl 4 rfl) ?_
  refine lv_iload hx hb d_L_law_807 (lv_at hl 0 rfl) ?_
  refine lv_iconst (v := 1) hx hb d_L_law_809 (by decide) ?_
  refine lv_iadd hx hb d_L_law_810 ?_
  refine sl_ld (j := iv) (d := 1) hx hb hX hbl hbA hS hL (by omega) d_L_law_811 ?_
  refine tp_i (hv1) ?_
  have hC9 : List.map (fun i => ((lw_W ct hd us op hm qo qa fu au ns n ck n ck th hh a1 a2 a3 a4 a5 a6 a7 a8 a9 b0 b1 b2 b3 b4 b5 b6 b7 b8 b9 b10 og fo ad eu es) : va_W)[i]?) [22, 24, 25 + (8 + k)] = List.map some ([(hd, .inr (0, [.ref us, .ref op, .int (nI n), .int ck])), (op, .inl ((ct 4), 40, .inr (.inr (.inr (.inr fo))))), ((ad k), .inr (2, [.ref (au u), .int (b0 k), .long (lN sec), .int (b3 k), .int (b2 k), .long (lN x), .long (lN y), .long (b9 k), .long c1, .long c2, .long (b10 k), .long (b5 k), .long (lN rc)]))] : va_W) := (wc_c rfl (wc_c rfl (wc_c (lw_s rfl hkn hes) rfl)))
  have hn9 : va_nd [22, 24, 25 + (8 + k)] = true := (nd_c (by simp only [List.mem_cons, List.not_mem_nil, or_false]; omega) (nd_c (by simp only [List.mem_cons, List.not_mem_nil, or_false]; omega) (nd_c List.not_mem_nil rfl)))
  have hPc : va_P G classes [(hd, .inr (0, [.ref us, .ref op, .int (nI n), .int ck])), (op, .inl ((ct 4), 40, .inr (.inr (.inr (.inr fo))))), ((ad k), .inr (2, [.ref (au u), .int (b0 k), .long (lN sec), .int (b3 k), .int (b2 k), .long (lN x), .long (lN y), .long (b9 k), .long c1, .long c2, .long (b10 k), .long (b5 k), .long (lN rc)]))] H := lp_sub hP [22, 24, 25 + (8 + k)] hC9
  have hDc := hD.sub (ws' := [(hd, .inr (0, [.ref us, .ref op, .int (nI n), .int ck])), (op, .inl ((ct 4), 40, .inr (.inr (.inr (.inr fo))))), ((ad k), .inr (2, [.ref (au u), .int (b0 k), .long (lN sec), .int (b3 k), .int (b2 k), .long (lN x), .long (lN y), .long (b9 k), .long c1, .long c2, .long (b10 k), .long (b5 k), .long (lN rc)]))]) [22, 24, 25 + (8 + k)] hn9 hC9
  refine vp_callSl (W.runV (As := [.int (nI k)]) (rest := []) ⟨hx, hb, hml, hown, hts⟩ (c_D_messageC l G ct H.size hd us op n ck fo k (ad k) (au u) (b0 k) sec (b3 k) (b2 k) x y (b9 k) c1 c2 (b10 k) (b5 k) rc d_hn d_hkn d_hfo) (tb_V hw cy_D_message ww_146 ww_147 ww_148 rfl rfl ⟨Nat.le_of_ble_eq_true rfl, Nat.le_of_ble_eq_true rfl⟩) (wk_preV (ci := 0) (q0 := 0) hPc hK hDc rfl rfl) rfl rfl hl.1 rfl (lv_room (Nat.le_of_ble_eq_true rfl)) d_L_law_812 ⟨by omega, by omega⟩) (fun r1026 er1026 => ?_)
  rw [er1026]
  refine lv_aload_n hx hb d_L_law_815 rfl (lv_at hl 2 rfl) ?_
  refine lv_aload_n hx hb d_L_law_816 rfl (lv_at hl 4 rfl) ?_
  refine lv_iload hx hb d_L_law_817 (lv_at hl 0 rfl) ?_
  refine lv_iconst (v := 1) hx hb d_L_law_819 (by decide) ?_
  refine lv_iadd hx hb d_L_law_820 ?_
  refine sl_ld (j := iv) (d := 1) hx hb hX hbl hbA hS hL (by omega) d_L_law_821 ?_
  refine tp_i (hv1) ?_
  have hC9 : List.map (fun i => ((lw_W ct hd us op hm qo qa fu au ns n ck n ck th hh a1 a2 a3 a4 a5 a6 a7 a8 a9 b0 b1 b2 b3 b4 b5 b6 b7 b8 b9 b10 og fo ad eu es) : va_W)[i]?) [0, 20] = List.map some ([(hm, .inr (4, [.int th, .long ns.toInt64, .int ck, .long hh, .ref (qa 1), .ref (qa 2), .ref (qa 3), .ref (qa 4), .ref (qa 5), .ref (qa 6), .ref (qa 7), .ref (qa 8), .int (nI n), .ref (qa 9), .ref (qa 10), .ref (qa 11), .ref (qa 12), .ref (qa 13), .ref (qa 14), .ref (qa 15), .ref (qa 16), .ref (qa 17), .ref (qa 18), .ref (qa 19), .ref (qa 20)])), ((qa 20), .inl ((ct 1), 40, .inr (.inl b10)))] : va_W) := (wc_c rfl (wc_c rfl rfl))
  have hn9 : va_nd [0, 20] = true := by decide
  have hPc : va_P G classes [(hm, .inr (4, [.int th, .long ns.toInt64, .int ck, .long hh, .ref (qa 1), .ref (qa 2), .ref (qa 3), .ref (qa 4), .ref (qa 5), .ref (qa 6), .ref (qa 7), .ref (qa 8), .int (nI n), .ref (qa 9), .ref (qa 10), .ref (qa 11), .ref (qa 12), .ref (qa 13), .ref (qa 14), .ref (qa 15), .ref (qa 16), .ref (qa 17), .ref (qa 18), .ref (qa 19), .ref (qa 20)])), ((qa 20), .inl ((ct 1), 40, .inr (.inl b10)))] H := lp_sub hP [0, 20] hC9
  have hDc := hD.sub (ws' := [(hm, .inr (4, [.int th, .long ns.toInt64, .int ck, .long hh, .ref (qa 1), .ref (qa 2), .ref (qa 3), .ref (qa 4), .ref (qa 5), .ref (qa 6), .ref (qa 7), .ref (qa 8), .int (nI n), .ref (qa 9), .ref (qa 10), .ref (qa 11), .ref (qa 12), .ref (qa 13), .ref (qa 14), .ref (qa 15), .ref (qa 16), .ref (qa 17), .ref (qa 18), .ref (qa 19), .ref (qa 20)])), ((qa 20), .inl ((ct 1), 40, .inr (.inl b10)))]) [0, 20] hn9 hC9
  refine wk_l (va_runV (As := [.int (nI k)]) (rest := [.long (b10 k)]) ⟨hx, hb, hml, hown, hts⟩ (c_M_message1 l G ct H.size hm th ns.toInt64 ck hh (qa 1) (qa 2) (qa 3) (qa 4) (qa 5) (qa 6) (qa 7) (qa 8) (qa 9) (qa 10) (qa 11) (qa 12) (qa 13) (qa 14) (qa 15) (qa 16) (qa 17) (qa 18) (qa 19) (qa 20) n b10 k m_hn m_hkn) (tb_V hw cy_M_message ww_860 ww_861 ww_862 rfl rfl ⟨Nat.le_of_ble_eq_true rfl, Nat.le_of_ble_eq_true rfl⟩) (wk_preV (ci := 4) (q0 := 0) hPc hK hDc rfl rfl) rfl rfl hl.1 rfl (lv_room (Nat.le_of_ble_eq_true rfl)) d_L_law_822 ⟨by omega, by omega⟩) hP hD hS hA [0, 20] hn9 hC9 (fun _ => by simp only [List.map_cons, List.map_nil]) (fun _ H locs _ hP hD hS => ?_)
  have hW9 : wk_sets ((lw_W ct hd us op hm qo qa fu au ns n ck n ck th hh a1 a2 a3 a4 a5 a6 a7 a8 a9 b0 b1 b2 b3 b4 b5 b6 b7 b8 b9 b10 og fo ad eu es) : va_W) [0, 20] ([(hm, .inr (4, [.int 0, .long ns.toInt64, .int ck, .long hh, .ref (qa 1), .ref (qa 2), .ref (qa 3), .ref (qa 4), .ref (qa 5), .ref (qa 6), .ref (qa 7), .ref (qa 8), .int (nI n), .ref (qa 9), .ref (qa 10), .ref (qa 11), .ref (qa 12), .ref (qa 13), .ref (qa 14), .ref (qa 15), .ref (qa 16), .ref (qa 17), .ref (qa 18), .ref (qa 19), .ref (qa 20)])), ((qa 20), .inl ((ct 1), 40, .inr (.inl b10)))] : va_W) = ((lw_W ct hd us op hm qo qa fu au ns n ck n ck 0 hh a1 a2 a3 a4 a5 a6 a7 a8 a9 b0 b1 b2 b3 b4 b5 b6 b7 b8 b9 b10 og fo ad eu es) : va_W) := (ws_c (ws' := (lw_W ct hd us op hm qo qa fu au ns n ck n ck 0 hh a1 a2 a3 a4 a5 a6 a7 a8 a9 b0 b1 b2 b3 b4 b5 b6 b7 b8 b9 b10 og fo ad eu es)) rfl (ws_k rfl rfl))
  have hP : va_P G classes (lw_W ct hd us op hm qo qa fu au ns n ck n ck 0 hh a1 a2 a3 a4 a5 a6 a7 a8 a9 b0 b1 b2 b3 b4 b5 b6 b7 b8 b9 b10 og fo ad eu es) H := lp_P hW9 hP
  have hD : va_D A (lw_W ct hd us op hm qo qa fu au ns n ck n ck 0 hh a1 a2 a3 a4 a5 a6 a7 a8 a9 b0 b1 b2 b3 b4 b5 b6 b7 b8 b9 b10 og fo ad eu es) := lp_D hW9 hD
  refine W.lcmp hx hb d_L_law_825 ?_
  refine lv_if_eq (tgt := 1005) hx hb d_L_law_826 (by decide) (fun h1027 => ?_) (fun h1027 => ?_)
  · have h1027 := (lg_cmp_eq _ _).mp h1027
    refine W.widen (k := cells + 1) (n := slots + 13) (by omega) (by omega) ?_
    exact kk n ck 0 hh a1 a2 a3 a4 a5 a6 a7 a8 a9 b0 b1 b2 b3 b4 b5 b6 b7 b8 b9 b10 og fo ad eu es H locs _ hnew hP hD hS (lv_sub hl [0, 1, 2, 3, 4] rfl)
  · have h1027 := fun q => h1027 ((lg_cmp_eq _ _).mpr q)
    exact absurd rfl h1027
set_option maxHeartbeats 4000000 in
set_option maxRecDepth 100000 in
theorem lq_stateC {k : Nat} {u : Nat} {sec : Nat} {x : Nat} {y : Nat} {rc : Nat} {c1 : Int64} {c2 : Int64} (C0 : lc_C p l s m meth c b L xs G ct A) (hiv : iv + 7 ≤ L) (hcc : cells + 1 ≤ room_1.cells) (hzz : slots + 13 ≤ room_1.slots)
    (hP : va_P G classes (lw_W ct hd us op hm qo qa fu au ns n ck n ck th hh a1 a2 a3 a4 a5 a6 a7 a8 a9 b0 b1 b2 b3 b4 b5 b6 b7 b8 b9 b10 og fo ad eu es) H) (hD : va_D A (lw_W ct hd us op hm qo qa fu au ns n ck n ck th hh a1 a2 a3 a4 a5 a6 a7 a8 a9 b0 b1 b2 b3 b4 b5 b6 b7 b8 b9 b10 og fo ad eu es)) (hS : va_S A s.heap H locs) (hl : lv_has ls 8 [(4, .int (nI iv)), (3, .ref qo), (2, .ref hm), (1, .ref hd), (0, .ref b)])
    (kk : lc_K p l e s m below meth c b L xs G ct A hd us op hm qo qa fu au ns iv (cells + 1) (slots + 13) Q)
    (hv1 : xs (iv + 1) = nI k) (hkn : k < n) (hes : es k = .inr (2, [.ref (au u), .int (b0 k), .long (lN sec), .int (b3 k), .int (b2 k), .long (lN x), .long (lN y), .long (b9 k), .long c1, .long c2, .long (b10 k), .long (b5 k), .long (lN rc)])) (d_hn : n ≤ 40) (d_hkn : k < n) (d_hfo : fo k = some (ad k)) (m_hn : n ≤ 40) (m_hkn : k < n) (hval : se_at (b2 k) (b3 k) ck = sm_at (b2 k) (b3 k) ck) (hnew : li_R fu au ns n a1 a2 a3 a4 a5 a6 a7 a8 a9 b0 b1 b2 b3 b4 b5 b6 b7 b8 b9 b10 fo ad eu es)  : W p l e room_1 s m #[Value.ref b] below meth c H locs cells slots Q (F0 m 886 ls []) := by
  obtain ⟨hx, hb, hr, hml, hown, hw, hK, hZ, hR, hN, hfl, hA, hbA, hX, hbl, hL, hlocks⟩ := C0
  have hts := hw
  have hP : va_P G classes (lw_W ct hd us op hm qo qa fu au ns n ck n ck th hh a1 a2 a3 a4 a5 a6 a7 a8 a9 b0 b1 b2 b3 b4 b5 b6 b7 b8 b9 b10 og fo ad eu es) H := hP
  have hD : va_D A (lw_W ct hd us op hm qo qa fu au ns n ck n ck th hh a1 a2 a3 a4 a5 a6 a7 a8 a9 b0 b1 b2 b3 b4 b5 b6 b7 b8 b9 b10 og fo ad eu es) := hD
  refine lv_aload_n hx hb d_L_law_886 rfl (lv_at hl 3 rfl) ?_
  refine lv_aload_n hx hb d_L_law_887 rfl (lv_at hl 4 rfl) ?_
  refine lv_iload hx hb d_L_law_888 (lv_at hl 0 rfl) ?_
  refine lv_iconst (v := 1) hx hb d_L_law_890 (by decide) ?_
  refine lv_iadd hx hb d_L_law_891 ?_
  refine sl_ld (j := iv) (d := 1) hx hb hX hbl hbA hS hL (by omega) d_L_law_892 ?_
  refine tp_i (hv1) ?_
  have hC9 : List.map (fun i => ((lw_W ct hd us op hm qo qa fu au ns n ck n ck th hh a1 a2 a3 a4 a5 a6 a7 a8 a9 b0 b1 b2 b3 b4 b5 b6 b7 b8 b9 b10 og fo ad eu es) : va_W)[i]?) [22, 24, 25 + (8 + k)] = List.map some ([(hd, .inr (0, [.ref us, .ref op, .int (nI n), .int ck])), (op, .inl ((ct 4), 40, .inr (.inr (.inr (.inr fo))))), ((ad k), .inr (2, [.ref (au u), .int (b0 k), .long (lN sec), .int (b3 k), .int (b2 k), .long (lN x), .long (lN y), .long (b9 k), .long c1, .long c2, .long (b10 k), .long (b5 k), .long (lN rc)]))] : va_W) := (wc_c rfl (wc_c rfl (wc_c (lw_s rfl hkn hes) rfl)))
  have hn9 : va_nd [22, 24, 25 + (8 + k)] = true := (nd_c (by simp only [List.mem_cons, List.not_mem_nil, or_false]; omega) (nd_c (by simp only [List.mem_cons, List.not_mem_nil, or_false]; omega) (nd_c List.not_mem_nil rfl)))
  have hPc : va_P G classes [(hd, .inr (0, [.ref us, .ref op, .int (nI n), .int ck])), (op, .inl ((ct 4), 40, .inr (.inr (.inr (.inr fo))))), ((ad k), .inr (2, [.ref (au u), .int (b0 k), .long (lN sec), .int (b3 k), .int (b2 k), .long (lN x), .long (lN y), .long (b9 k), .long c1, .long c2, .long (b10 k), .long (b5 k), .long (lN rc)]))] H := lp_sub hP [22, 24, 25 + (8 + k)] hC9
  have hDc := hD.sub (ws' := [(hd, .inr (0, [.ref us, .ref op, .int (nI n), .int ck])), (op, .inl ((ct 4), 40, .inr (.inr (.inr (.inr fo))))), ((ad k), .inr (2, [.ref (au u), .int (b0 k), .long (lN sec), .int (b3 k), .int (b2 k), .long (lN x), .long (lN y), .long (b9 k), .long c1, .long c2, .long (b10 k), .long (b5 k), .long (lN rc)]))]) [22, 24, 25 + (8 + k)] hn9 hC9
  refine vp_callSi (W.runV (As := [.int (nI k)]) (rest := []) ⟨hx, hb, hml, hown, hts⟩ (c_D_stateC l G ct H.size hd us op n ck fo k (ad k) (au u) (b0 k) sec (b3 k) (b2 k) x y (b9 k) c1 c2 (b10 k) (b5 k) rc d_hn d_hkn d_hfo) (tb_V hw cy_D_state ww_158 ww_159 ww_160 rfl rfl ⟨Nat.le_of_ble_eq_true rfl, Nat.le_of_ble_eq_true rfl⟩) (wk_preV (ci := 0) (q0 := 0) hPc hK hDc rfl rfl) rfl rfl hl.1 rfl (lv_room (Nat.le_of_ble_eq_true rfl)) d_L_law_893 ⟨by omega, by omega⟩) (fun r1028 er1028 => ?_)
  rw [er1028]
  refine lv_aload_n hx hb d_L_law_896 rfl (lv_at hl 2 rfl) ?_
  refine lv_aload_n hx hb d_L_law_897 rfl (lv_at hl 4 rfl) ?_
  refine lv_iload hx hb d_L_law_898 (lv_at hl 0 rfl) ?_
  refine lv_iconst (v := 1) hx hb d_L_law_900 (by decide) ?_
  refine lv_iadd hx hb d_L_law_901 ?_
  refine sl_ld (j := iv) (d := 1) hx hb hX hbl hbA hS hL (by omega) d_L_law_902 ?_
  refine tp_i (hv1) ?_
  have hC9 : List.map (fun i => ((lw_W ct hd us op hm qo qa fu au ns n ck n ck th hh a1 a2 a3 a4 a5 a6 a7 a8 a9 b0 b1 b2 b3 b4 b5 b6 b7 b8 b9 b10 og fo ad eu es) : va_W)[i]?) [0, 12, 13] = List.map some ([(hm, .inr (4, [.int th, .long ns.toInt64, .int ck, .long hh, .ref (qa 1), .ref (qa 2), .ref (qa 3), .ref (qa 4), .ref (qa 5), .ref (qa 6), .ref (qa 7), .ref (qa 8), .int (nI n), .ref (qa 9), .ref (qa 10), .ref (qa 11), .ref (qa 12), .ref (qa 13), .ref (qa 14), .ref (qa 15), .ref (qa 16), .ref (qa 17), .ref (qa 18), .ref (qa 19), .ref (qa 20)])), ((qa 12), .inl ((ct 0), 40, .inl b2)), ((qa 13), .inl ((ct 0), 40, .inl b3))] : va_W) := (wc_c rfl (wc_c rfl (wc_c rfl rfl)))
  have hn9 : va_nd [0, 12, 13] = true := by decide
  have hPc : va_P G classes [(hm, .inr (4, [.int th, .long ns.toInt64, .int ck, .long hh, .ref (qa 1), .ref (qa 2), .ref (qa 3), .ref (qa 4), .ref (qa 5), .ref (qa 6), .ref (qa 7), .ref (qa 8), .int (nI n), .ref (qa 9), .ref (qa 10), .ref (qa 11), .ref (qa 12), .ref (qa 13), .ref (qa 14), .ref (qa 15), .ref (qa 16), .ref (qa 17), .ref (qa 18), .ref (qa 19), .ref (qa 20)])), ((qa 12), .inl ((ct 0), 40, .inl b2)), ((qa 13), .inl ((ct 0), 40, .inl b3))] H := lp_sub hP [0, 12, 13] hC9
  have hDc := hD.sub (ws' := [(hm, .inr (4, [.int th, .long ns.toInt64, .int ck, .long hh, .ref (qa 1), .ref (qa 2), .ref (qa 3), .ref (qa 4), .ref (qa 5), .ref (qa 6), .ref (qa 7), .ref (qa 8), .int (nI n), .ref (qa 9), .ref (qa 10), .ref (qa 11), .ref (qa 12), .ref (qa 13), .ref (qa 14), .ref (qa 15), .ref (qa 16), .ref (qa 17), .ref (qa 18), .ref (qa 19), .ref (qa 20)])), ((qa 12), .inl ((ct 0), 40, .inl b2)), ((qa 13), .inl ((ct 0), 40, .inl b3))]) [0, 12, 13] hn9 hC9
  refine wk_i (va_runV (As := [.int (nI k)]) (rest := [.int (se_at (b2 k) (b3 k) ck)]) ⟨hx, hb, hml, hown, hts⟩ (c_M_state1 l G ct H.size hm th ns.toInt64 ck hh (qa 1) (qa 2) (qa 3) (qa 4) (qa 5) (qa 6) (qa 7) (qa 8) (qa 9) (qa 10) (qa 11) (qa 12) (qa 13) (qa 14) (qa 15) (qa 16) (qa 17) (qa 18) (qa 19) (qa 20) n b2 b3 k m_hn m_hkn) (tb_V hw cy_M_state ww_868 ww_869 ww_870 rfl rfl ⟨Nat.le_of_ble_eq_true rfl, Nat.le_of_ble_eq_true rfl⟩) (wk_preV (ci := 4) (q0 := 0) hPc hK hDc rfl rfl) rfl rfl hl.1 rfl (lv_room (Nat.le_of_ble_eq_true rfl)) d_L_law_903 ⟨by omega, by omega⟩) hP hD hS hA [0, 12, 13] hn9 hC9 (fun _ => by simp only [List.map_cons, List.map_nil]) (fun _ H locs _ hP hD hS => ?_)
  have hW9 : wk_sets ((lw_W ct hd us op hm qo qa fu au ns n ck n ck th hh a1 a2 a3 a4 a5 a6 a7 a8 a9 b0 b1 b2 b3 b4 b5 b6 b7 b8 b9 b10 og fo ad eu es) : va_W) [0, 12, 13] ([(hm, .inr (4, [.int 0, .long ns.toInt64, .int ck, .long hh, .ref (qa 1), .ref (qa 2), .ref (qa 3), .ref (qa 4), .ref (qa 5), .ref (qa 6), .ref (qa 7), .ref (qa 8), .int (nI n), .ref (qa 9), .ref (qa 10), .ref (qa 11), .ref (qa 12), .ref (qa 13), .ref (qa 14), .ref (qa 15), .ref (qa 16), .ref (qa 17), .ref (qa 18), .ref (qa 19), .ref (qa 20)])), ((qa 12), .inl ((ct 0), 40, .inl b2)), ((qa 13), .inl ((ct 0), 40, .inl b3))] : va_W) = ((lw_W ct hd us op hm qo qa fu au ns n ck n ck 0 hh a1 a2 a3 a4 a5 a6 a7 a8 a9 b0 b1 b2 b3 b4 b5 b6 b7 b8 b9 b10 og fo ad eu es) : va_W) := (ws_c (ws' := (lw_W ct hd us op hm qo qa fu au ns n ck n ck 0 hh a1 a2 a3 a4 a5 a6 a7 a8 a9 b0 b1 b2 b3 b4 b5 b6 b7 b8 b9 b10 og fo ad eu es)) rfl (ws_k rfl (ws_k rfl rfl)))
  have hP : va_P G classes (lw_W ct hd us op hm qo qa fu au ns n ck n ck 0 hh a1 a2 a3 a4 a5 a6 a7 a8 a9 b0 b1 b2 b3 b4 b5 b6 b7 b8 b9 b10 og fo ad eu es) H := lp_P hW9 hP
  have hD : va_D A (lw_W ct hd us op hm qo qa fu au ns n ck n ck 0 hh a1 a2 a3 a4 a5 a6 a7 a8 a9 b0 b1 b2 b3 b4 b5 b6 b7 b8 b9 b10 og fo ad eu es) := lp_D hW9 hD
  refine lv_icmp_eq (tgt := 1005) hx hb d_L_law_906 (by decide) (fun h1029 => ?_) (fun h1029 => ?_)
  · refine W.widen (k := cells + 1) (n := slots + 13) (by omega) (by omega) ?_
    exact kk n ck 0 hh a1 a2 a3 a4 a5 a6 a7 a8 a9 b0 b1 b2 b3 b4 b5 b6 b7 b8 b9 b10 og fo ad eu es H locs _ hnew hP hD hS (lv_sub hl [0, 1, 2, 3, 4] rfl)
  · exact absurd hval h1029
set_option maxHeartbeats 4000000 in
set_option maxRecDepth 100000 in
theorem lq_messageV {k : Nat} {u : Nat} {sec : Nat} {x : Nat} {y : Nat} {rc : Nat} {c1 : Int64} {c2 : Int64} (C0 : lc_C p l s m meth c b L xs G ct A) (hiv : iv + 7 ≤ L) (hcc : cells + 1 ≤ room_1.cells) (hzz : slots + 13 ≤ room_1.slots)
    (hP : va_P G classes (lw_W ct hd us op hm qo qa fu au ns n ck n ck th hh a1 a2 a3 a4 a5 a6 a7 a8 a9 b0 b1 b2 b3 b4 b5 b6 b7 b8 b9 b10 og fo ad eu es) H) (hD : va_D A (lw_W ct hd us op hm qo qa fu au ns n ck n ck th hh a1 a2 a3 a4 a5 a6 a7 a8 a9 b0 b1 b2 b3 b4 b5 b6 b7 b8 b9 b10 og fo ad eu es)) (hS : va_S A s.heap H locs) (hl : lv_has ls 8 [(4, .int (nI iv)), (3, .ref qo), (2, .ref hm), (1, .ref hd), (0, .ref b)])
    (kk : lc_K p l e s m below meth c b L xs G ct A hd us op hm qo qa fu au ns iv (cells + 1) (slots + 13) Q)
    (hv1 : xs (iv + 1) = nI k) (hkn : k < n) (hes : es k = .inr (3, [.ref (au u), .int (b0 k), .long (lN sec), .int (b3 k), .int (b2 k), .long (lN x), .long (lN y), .long (b9 k), .long c1, .long c2, .long (b10 k), .long (lN rc)])) (d_hn : n ≤ 40) (d_hkn : k < n) (d_hfo : fo k = some (ad k)) (m_hn : n ≤ 40) (m_hkn : k < n)  (hnew : li_R fu au ns n a1 a2 a3 a4 a5 a6 a7 a8 a9 b0 b1 b2 b3 b4 b5 b6 b7 b8 b9 b10 fo ad eu es)  : W p l e room_1 s m #[Value.ref b] below meth c H locs cells slots Q (F0 m 805 ls []) := by
  obtain ⟨hx, hb, hr, hml, hown, hw, hK, hZ, hR, hN, hfl, hA, hbA, hX, hbl, hL, hlocks⟩ := C0
  have hts := hw
  have hP : va_P G classes (lw_W ct hd us op hm qo qa fu au ns n ck n ck th hh a1 a2 a3 a4 a5 a6 a7 a8 a9 b0 b1 b2 b3 b4 b5 b6 b7 b8 b9 b10 og fo ad eu es) H := hP
  have hD : va_D A (lw_W ct hd us op hm qo qa fu au ns n ck n ck th hh a1 a2 a3 a4 a5 a6 a7 a8 a9 b0 b1 b2 b3 b4 b5 b6 b7 b8 b9 b10 og fo ad eu es) := hD
  refine lv_aload_n hx hb d_L_law_805 rfl (lv_at hl 3 rfl) ?_
  refine lv_aload_n hx hb d_L_law_806 rfl (lv_at hl 4 rfl) ?_
  refine lv_iload hx hb d_L_law_807 (lv_at hl 0 rfl) ?_
  refine lv_iconst (v := 1) hx hb d_L_law_809 (by decide) ?_
  refine lv_iadd hx hb d_L_law_810 ?_
  refine sl_ld (j := iv) (d := 1) hx hb hX hbl hbA hS hL (by omega) d_L_law_811 ?_
  refine tp_i (hv1) ?_
  have hC9 : List.map (fun i => ((lw_W ct hd us op hm qo qa fu au ns n ck n ck th hh a1 a2 a3 a4 a5 a6 a7 a8 a9 b0 b1 b2 b3 b4 b5 b6 b7 b8 b9 b10 og fo ad eu es) : va_W)[i]?) [22, 24, 25 + (8 + k)] = List.map some ([(hd, .inr (0, [.ref us, .ref op, .int (nI n), .int ck])), (op, .inl ((ct 4), 40, .inr (.inr (.inr (.inr fo))))), ((ad k), .inr (3, [.ref (au u), .int (b0 k), .long (lN sec), .int (b3 k), .int (b2 k), .long (lN x), .long (lN y), .long (b9 k), .long c1, .long c2, .long (b10 k), .long (lN rc)]))] : va_W) := (wc_c rfl (wc_c rfl (wc_c (lw_s rfl hkn hes) rfl)))
  have hn9 : va_nd [22, 24, 25 + (8 + k)] = true := (nd_c (by simp only [List.mem_cons, List.not_mem_nil, or_false]; omega) (nd_c (by simp only [List.mem_cons, List.not_mem_nil, or_false]; omega) (nd_c List.not_mem_nil rfl)))
  have hPc : va_P G classes [(hd, .inr (0, [.ref us, .ref op, .int (nI n), .int ck])), (op, .inl ((ct 4), 40, .inr (.inr (.inr (.inr fo))))), ((ad k), .inr (3, [.ref (au u), .int (b0 k), .long (lN sec), .int (b3 k), .int (b2 k), .long (lN x), .long (lN y), .long (b9 k), .long c1, .long c2, .long (b10 k), .long (lN rc)]))] H := lp_sub hP [22, 24, 25 + (8 + k)] hC9
  have hDc := hD.sub (ws' := [(hd, .inr (0, [.ref us, .ref op, .int (nI n), .int ck])), (op, .inl ((ct 4), 40, .inr (.inr (.inr (.inr fo))))), ((ad k), .inr (3, [.ref (au u), .int (b0 k), .long (lN sec), .int (b3 k), .int (b2 k), .long (lN x), .long (lN y), .long (b9 k), .long c1, .long c2, .long (b10 k), .long (lN rc)]))]) [22, 24, 25 + (8 + k)] hn9 hC9
  refine vp_callSl (W.runV (As := [.int (nI k)]) (rest := []) ⟨hx, hb, hml, hown, hts⟩ (c_D_messageV l G ct H.size hd us op n ck fo k (ad k) (au u) (b0 k) sec (b3 k) (b2 k) x y (b9 k) c1 c2 (b10 k) rc d_hn d_hkn d_hfo) (tb_V hw cy_D_message ww_146 ww_147 ww_148 rfl rfl ⟨Nat.le_of_ble_eq_true rfl, Nat.le_of_ble_eq_true rfl⟩) (wk_preV (ci := 0) (q0 := 0) hPc hK hDc rfl rfl) rfl rfl hl.1 rfl (lv_room (Nat.le_of_ble_eq_true rfl)) d_L_law_812 ⟨by omega, by omega⟩) (fun r1030 er1030 => ?_)
  rw [er1030]
  refine lv_aload_n hx hb d_L_law_815 rfl (lv_at hl 2 rfl) ?_
  refine lv_aload_n hx hb d_L_law_816 rfl (lv_at hl 4 rfl) ?_
  refine lv_iload hx hb d_L_law_817 (lv_at hl 0 rfl) ?_
  refine lv_iconst (v := 1) hx hb d_L_law_819 (by decide) ?_
  refine lv_iadd hx hb d_L_law_820 ?_
  refine sl_ld (j := iv) (d := 1) hx hb hX hbl hbA hS hL (by omega) d_L_law_821 ?_
  refine tp_i (hv1) ?_
  have hC9 : List.map (fun i => ((lw_W ct hd us op hm qo qa fu au ns n ck n ck th hh a1 a2 a3 a4 a5 a6 a7 a8 a9 b0 b1 b2 b3 b4 b5 b6 b7 b8 b9 b10 og fo ad eu es) : va_W)[i]?) [0, 20] = List.map some ([(hm, .inr (4, [.int th, .long ns.toInt64, .int ck, .long hh, .ref (qa 1), .ref (qa 2), .ref (qa 3), .ref (qa 4), .ref (qa 5), .ref (qa 6), .ref (qa 7), .ref (qa 8), .int (nI n), .ref (qa 9), .ref (qa 10), .ref (qa 11), .ref (qa 12), .ref (qa 13), .ref (qa 14), .ref (qa 15), .ref (qa 16), .ref (qa 17), .ref (qa 18), .ref (qa 19), .ref (qa 20)])), ((qa 20), .inl ((ct 1), 40, .inr (.inl b10)))] : va_W) := (wc_c rfl (wc_c rfl rfl))
  have hn9 : va_nd [0, 20] = true := by decide
  have hPc : va_P G classes [(hm, .inr (4, [.int th, .long ns.toInt64, .int ck, .long hh, .ref (qa 1), .ref (qa 2), .ref (qa 3), .ref (qa 4), .ref (qa 5), .ref (qa 6), .ref (qa 7), .ref (qa 8), .int (nI n), .ref (qa 9), .ref (qa 10), .ref (qa 11), .ref (qa 12), .ref (qa 13), .ref (qa 14), .ref (qa 15), .ref (qa 16), .ref (qa 17), .ref (qa 18), .ref (qa 19), .ref (qa 20)])), ((qa 20), .inl ((ct 1), 40, .inr (.inl b10)))] H := lp_sub hP [0, 20] hC9
  have hDc := hD.sub (ws' := [(hm, .inr (4, [.int th, .long ns.toInt64, .int ck, .long hh, .ref (qa 1), .ref (qa 2), .ref (qa 3), .ref (qa 4), .ref (qa 5), .ref (qa 6), .ref (qa 7), .ref (qa 8), .int (nI n), .ref (qa 9), .ref (qa 10), .ref (qa 11), .ref (qa 12), .ref (qa 13), .ref (qa 14), .ref (qa 15), .ref (qa 16), .ref (qa 17), .ref (qa 18), .ref (qa 19), .ref (qa 20)])), ((qa 20), .inl ((ct 1), 40, .inr (.inl b10)))]) [0, 20] hn9 hC9
  refine wk_l (va_runV (As := [.int (nI k)]) (rest := [.long (b10 k)]) ⟨hx, hb, hml, hown, hts⟩ (c_M_message1 l G ct H.size hm th ns.toInt64 ck hh (qa 1) (qa 2) (qa 3) (qa 4) (qa 5) (qa 6) (qa 7) (qa 8) (qa 9) (qa 10) (qa 11) (qa 12) (qa 13) (qa 14) (qa 15) (qa 16) (qa 17) (qa 18) (qa 19) (qa 20) n b10 k m_hn m_hkn) (tb_V hw cy_M_message ww_860 ww_861 ww_862 rfl rfl ⟨Nat.le_of_ble_eq_true rfl, Nat.le_of_ble_eq_true rfl⟩) (wk_preV (ci := 4) (q0 := 0) hPc hK hDc rfl rfl) rfl rfl hl.1 rfl (lv_room (Nat.le_of_ble_eq_true rfl)) d_L_law_822 ⟨by omega, by omega⟩) hP hD hS hA [0, 20] hn9 hC9 (fun _ => by simp only [List.map_cons, List.map_nil]) (fun _ H locs _ hP hD hS => ?_)
  have hW9 : wk_sets ((lw_W ct hd us op hm qo qa fu au ns n ck n ck th hh a1 a2 a3 a4 a5 a6 a7 a8 a9 b0 b1 b2 b3 b4 b5 b6 b7 b8 b9 b10 og fo ad eu es) : va_W) [0, 20] ([(hm, .inr (4, [.int 0, .long ns.toInt64, .int ck, .long hh, .ref (qa 1), .ref (qa 2), .ref (qa 3), .ref (qa 4), .ref (qa 5), .ref (qa 6), .ref (qa 7), .ref (qa 8), .int (nI n), .ref (qa 9), .ref (qa 10), .ref (qa 11), .ref (qa 12), .ref (qa 13), .ref (qa 14), .ref (qa 15), .ref (qa 16), .ref (qa 17), .ref (qa 18), .ref (qa 19), .ref (qa 20)])), ((qa 20), .inl ((ct 1), 40, .inr (.inl b10)))] : va_W) = ((lw_W ct hd us op hm qo qa fu au ns n ck n ck 0 hh a1 a2 a3 a4 a5 a6 a7 a8 a9 b0 b1 b2 b3 b4 b5 b6 b7 b8 b9 b10 og fo ad eu es) : va_W) := (ws_c (ws' := (lw_W ct hd us op hm qo qa fu au ns n ck n ck 0 hh a1 a2 a3 a4 a5 a6 a7 a8 a9 b0 b1 b2 b3 b4 b5 b6 b7 b8 b9 b10 og fo ad eu es)) rfl (ws_k rfl rfl))
  have hP : va_P G classes (lw_W ct hd us op hm qo qa fu au ns n ck n ck 0 hh a1 a2 a3 a4 a5 a6 a7 a8 a9 b0 b1 b2 b3 b4 b5 b6 b7 b8 b9 b10 og fo ad eu es) H := lp_P hW9 hP
  have hD : va_D A (lw_W ct hd us op hm qo qa fu au ns n ck n ck 0 hh a1 a2 a3 a4 a5 a6 a7 a8 a9 b0 b1 b2 b3 b4 b5 b6 b7 b8 b9 b10 og fo ad eu es) := lp_D hW9 hD
  refine W.lcmp hx hb d_L_law_825 ?_
  refine lv_if_eq (tgt := 1005) hx hb d_L_law_826 (by decide) (fun h1031 => ?_) (fun h1031 => ?_)
  · have h1031 := (lg_cmp_eq _ _).mp h1031
    refine W.widen (k := cells + 1) (n := slots + 13) (by omega) (by omega) ?_
    exact kk n ck 0 hh a1 a2 a3 a4 a5 a6 a7 a8 a9 b0 b1 b2 b3 b4 b5 b6 b7 b8 b9 b10 og fo ad eu es H locs _ hnew hP hD hS (lv_sub hl [0, 1, 2, 3, 4] rfl)
  · have h1031 := fun q => h1031 ((lg_cmp_eq _ _).mpr q)
    exact absurd rfl h1031
set_option maxHeartbeats 4000000 in
set_option maxRecDepth 100000 in
theorem lq_stateV {k : Nat} {u : Nat} {sec : Nat} {x : Nat} {y : Nat} {rc : Nat} {c1 : Int64} {c2 : Int64} (C0 : lc_C p l s m meth c b L xs G ct A) (hiv : iv + 7 ≤ L) (hcc : cells + 1 ≤ room_1.cells) (hzz : slots + 13 ≤ room_1.slots)
    (hP : va_P G classes (lw_W ct hd us op hm qo qa fu au ns n ck n ck th hh a1 a2 a3 a4 a5 a6 a7 a8 a9 b0 b1 b2 b3 b4 b5 b6 b7 b8 b9 b10 og fo ad eu es) H) (hD : va_D A (lw_W ct hd us op hm qo qa fu au ns n ck n ck th hh a1 a2 a3 a4 a5 a6 a7 a8 a9 b0 b1 b2 b3 b4 b5 b6 b7 b8 b9 b10 og fo ad eu es)) (hS : va_S A s.heap H locs) (hl : lv_has ls 8 [(4, .int (nI iv)), (3, .ref qo), (2, .ref hm), (1, .ref hd), (0, .ref b)])
    (kk : lc_K p l e s m below meth c b L xs G ct A hd us op hm qo qa fu au ns iv (cells + 1) (slots + 13) Q)
    (hv1 : xs (iv + 1) = nI k) (hkn : k < n) (hes : es k = .inr (3, [.ref (au u), .int (b0 k), .long (lN sec), .int (b3 k), .int (b2 k), .long (lN x), .long (lN y), .long (b9 k), .long c1, .long c2, .long (b10 k), .long (lN rc)])) (d_hn : n ≤ 40) (d_hkn : k < n) (d_hfo : fo k = some (ad k)) (m_hn : n ≤ 40) (m_hkn : k < n) (hval : se_at (b2 k) (b3 k) ck = sm_at (b2 k) (b3 k) ck) (hnew : li_R fu au ns n a1 a2 a3 a4 a5 a6 a7 a8 a9 b0 b1 b2 b3 b4 b5 b6 b7 b8 b9 b10 fo ad eu es)  : W p l e room_1 s m #[Value.ref b] below meth c H locs cells slots Q (F0 m 886 ls []) := by
  obtain ⟨hx, hb, hr, hml, hown, hw, hK, hZ, hR, hN, hfl, hA, hbA, hX, hbl, hL, hlocks⟩ := C0
  have hts := hw
  have hP : va_P G classes (lw_W ct hd us op hm qo qa fu au ns n ck n ck th hh a1 a2 a3 a4 a5 a6 a7 a8 a9 b0 b1 b2 b3 b4 b5 b6 b7 b8 b9 b10 og fo ad eu es) H := hP
  have hD : va_D A (lw_W ct hd us op hm qo qa fu au ns n ck n ck th hh a1 a2 a3 a4 a5 a6 a7 a8 a9 b0 b1 b2 b3 b4 b5 b6 b7 b8 b9 b10 og fo ad eu es) := hD
  refine lv_aload_n hx hb d_L_law_886 rfl (lv_at hl 3 rfl) ?_
  refine lv_aload_n hx hb d_L_law_887 rfl (lv_at hl 4 rfl) ?_
  refine lv_iload hx hb d_L_law_888 (lv_at hl 0 rfl) ?_
  refine lv_iconst (v := 1) hx hb d_L_law_890 (by decide) ?_
  refine lv_iadd hx hb d_L_law_891 ?_
  refine sl_ld (j := iv) (d := 1) hx hb hX hbl hbA hS hL (by omega) d_L_law_892 ?_
  refine tp_i (hv1) ?_
  have hC9 : List.map (fun i => ((lw_W ct hd us op hm qo qa fu au ns n ck n ck th hh a1 a2 a3 a4 a5 a6 a7 a8 a9 b0 b1 b2 b3 b4 b5 b6 b7 b8 b9 b10 og fo ad eu es) : va_W)[i]?) [22, 24, 25 + (8 + k)] = List.map some ([(hd, .inr (0, [.ref us, .ref op, .int (nI n), .int ck])), (op, .inl ((ct 4), 40, .inr (.inr (.inr (.inr fo))))), ((ad k), .inr (3, [.ref (au u), .int (b0 k), .long (lN sec), .int (b3 k), .int (b2 k), .long (lN x), .long (lN y), .long (b9 k), .long c1, .long c2, .long (b10 k), .long (lN rc)]))] : va_W) := (wc_c rfl (wc_c rfl (wc_c (lw_s rfl hkn hes) rfl)))
  have hn9 : va_nd [22, 24, 25 + (8 + k)] = true := (nd_c (by simp only [List.mem_cons, List.not_mem_nil, or_false]; omega) (nd_c (by simp only [List.mem_cons, List.not_mem_nil, or_false]; omega) (nd_c List.not_mem_nil rfl)))
  have hPc : va_P G classes [(hd, .inr (0, [.ref us, .ref op, .int (nI n), .int ck])), (op, .inl ((ct 4), 40, .inr (.inr (.inr (.inr fo))))), ((ad k), .inr (3, [.ref (au u), .int (b0 k), .long (lN sec), .int (b3 k), .int (b2 k), .long (lN x), .long (lN y), .long (b9 k), .long c1, .long c2, .long (b10 k), .long (lN rc)]))] H := lp_sub hP [22, 24, 25 + (8 + k)] hC9
  have hDc := hD.sub (ws' := [(hd, .inr (0, [.ref us, .ref op, .int (nI n), .int ck])), (op, .inl ((ct 4), 40, .inr (.inr (.inr (.inr fo))))), ((ad k), .inr (3, [.ref (au u), .int (b0 k), .long (lN sec), .int (b3 k), .int (b2 k), .long (lN x), .long (lN y), .long (b9 k), .long c1, .long c2, .long (b10 k), .long (lN rc)]))]) [22, 24, 25 + (8 + k)] hn9 hC9
  refine vp_callSi (W.runV (As := [.int (nI k)]) (rest := []) ⟨hx, hb, hml, hown, hts⟩ (c_D_stateV l G ct H.size hd us op n ck fo k (ad k) (au u) (b0 k) sec (b3 k) (b2 k) x y (b9 k) c1 c2 (b10 k) rc d_hn d_hkn d_hfo) (tb_V hw cy_D_state ww_158 ww_159 ww_160 rfl rfl ⟨Nat.le_of_ble_eq_true rfl, Nat.le_of_ble_eq_true rfl⟩) (wk_preV (ci := 0) (q0 := 0) hPc hK hDc rfl rfl) rfl rfl hl.1 rfl (lv_room (Nat.le_of_ble_eq_true rfl)) d_L_law_893 ⟨by omega, by omega⟩) (fun r1032 er1032 => ?_)
  rw [er1032]
  refine lv_aload_n hx hb d_L_law_896 rfl (lv_at hl 2 rfl) ?_
  refine lv_aload_n hx hb d_L_law_897 rfl (lv_at hl 4 rfl) ?_
  refine lv_iload hx hb d_L_law_898 (lv_at hl 0 rfl) ?_
  refine lv_iconst (v := 1) hx hb d_L_law_900 (by decide) ?_
  refine lv_iadd hx hb d_L_law_901 ?_
  refine sl_ld (j := iv) (d := 1) hx hb hX hbl hbA hS hL (by omega) d_L_law_902 ?_
  refine tp_i (hv1) ?_
  have hC9 : List.map (fun i => ((lw_W ct hd us op hm qo qa fu au ns n ck n ck th hh a1 a2 a3 a4 a5 a6 a7 a8 a9 b0 b1 b2 b3 b4 b5 b6 b7 b8 b9 b10 og fo ad eu es) : va_W)[i]?) [0, 12, 13] = List.map some ([(hm, .inr (4, [.int th, .long ns.toInt64, .int ck, .long hh, .ref (qa 1), .ref (qa 2), .ref (qa 3), .ref (qa 4), .ref (qa 5), .ref (qa 6), .ref (qa 7), .ref (qa 8), .int (nI n), .ref (qa 9), .ref (qa 10), .ref (qa 11), .ref (qa 12), .ref (qa 13), .ref (qa 14), .ref (qa 15), .ref (qa 16), .ref (qa 17), .ref (qa 18), .ref (qa 19), .ref (qa 20)])), ((qa 12), .inl ((ct 0), 40, .inl b2)), ((qa 13), .inl ((ct 0), 40, .inl b3))] : va_W) := (wc_c rfl (wc_c rfl (wc_c rfl rfl)))
  have hn9 : va_nd [0, 12, 13] = true := by decide
  have hPc : va_P G classes [(hm, .inr (4, [.int th, .long ns.toInt64, .int ck, .long hh, .ref (qa 1), .ref (qa 2), .ref (qa 3), .ref (qa 4), .ref (qa 5), .ref (qa 6), .ref (qa 7), .ref (qa 8), .int (nI n), .ref (qa 9), .ref (qa 10), .ref (qa 11), .ref (qa 12), .ref (qa 13), .ref (qa 14), .ref (qa 15), .ref (qa 16), .ref (qa 17), .ref (qa 18), .ref (qa 19), .ref (qa 20)])), ((qa 12), .inl ((ct 0), 40, .inl b2)), ((qa 13), .inl ((ct 0), 40, .inl b3))] H := lp_sub hP [0, 12, 13] hC9
  have hDc := hD.sub (ws' := [(hm, .inr (4, [.int th, .long ns.toInt64, .int ck, .long hh, .ref (qa 1), .ref (qa 2), .ref (qa 3), .ref (qa 4), .ref (qa 5), .ref (qa 6), .ref (qa 7), .ref (qa 8), .int (nI n), .ref (qa 9), .ref (qa 10), .ref (qa 11), .ref (qa 12), .ref (qa 13), .ref (qa 14), .ref (qa 15), .ref (qa 16), .ref (qa 17), .ref (qa 18), .ref (qa 19), .ref (qa 20)])), ((qa 12), .inl ((ct 0), 40, .inl b2)), ((qa 13), .inl ((ct 0), 40, .inl b3))]) [0, 12, 13] hn9 hC9
  refine wk_i (va_runV (As := [.int (nI k)]) (rest := [.int (se_at (b2 k) (b3 k) ck)]) ⟨hx, hb, hml, hown, hts⟩ (c_M_state1 l G ct H.size hm th ns.toInt64 ck hh (qa 1) (qa 2) (qa 3) (qa 4) (qa 5) (qa 6) (qa 7) (qa 8) (qa 9) (qa 10) (qa 11) (qa 12) (qa 13) (qa 14) (qa 15) (qa 16) (qa 17) (qa 18) (qa 19) (qa 20) n b2 b3 k m_hn m_hkn) (tb_V hw cy_M_state ww_868 ww_869 ww_870 rfl rfl ⟨Nat.le_of_ble_eq_true rfl, Nat.le_of_ble_eq_true rfl⟩) (wk_preV (ci := 4) (q0 := 0) hPc hK hDc rfl rfl) rfl rfl hl.1 rfl (lv_room (Nat.le_of_ble_eq_true rfl)) d_L_law_903 ⟨by omega, by omega⟩) hP hD hS hA [0, 12, 13] hn9 hC9 (fun _ => by simp only [List.map_cons, List.map_nil]) (fun _ H locs _ hP hD hS => ?_)
  have hW9 : wk_sets ((lw_W ct hd us op hm qo qa fu au ns n ck n ck th hh a1 a2 a3 a4 a5 a6 a7 a8 a9 b0 b1 b2 b3 b4 b5 b6 b7 b8 b9 b10 og fo ad eu es) : va_W) [0, 12, 13] ([(hm, .inr (4, [.int 0, .long ns.toInt64, .int ck, .long hh, .ref (qa 1), .ref (qa 2), .ref (qa 3), .ref (qa 4), .ref (qa 5), .ref (qa 6), .ref (qa 7), .ref (qa 8), .int (nI n), .ref (qa 9), .ref (qa 10), .ref (qa 11), .ref (qa 12), .ref (qa 13), .ref (qa 14), .ref (qa 15), .ref (qa 16), .ref (qa 17), .ref (qa 18), .ref (qa 19), .ref (qa 20)])), ((qa 12), .inl ((ct 0), 40, .inl b2)), ((qa 13), .inl ((ct 0), 40, .inl b3))] : va_W) = ((lw_W ct hd us op hm qo qa fu au ns n ck n ck 0 hh a1 a2 a3 a4 a5 a6 a7 a8 a9 b0 b1 b2 b3 b4 b5 b6 b7 b8 b9 b10 og fo ad eu es) : va_W) := (ws_c (ws' := (lw_W ct hd us op hm qo qa fu au ns n ck n ck 0 hh a1 a2 a3 a4 a5 a6 a7 a8 a9 b0 b1 b2 b3 b4 b5 b6 b7 b8 b9 b10 og fo ad eu es)) rfl (ws_k rfl (ws_k rfl rfl)))
  have hP : va_P G classes (lw_W ct hd us op hm qo qa fu au ns n ck n ck 0 hh a1 a2 a3 a4 a5 a6 a7 a8 a9 b0 b1 b2 b3 b4 b5 b6 b7 b8 b9 b10 og fo ad eu es) H := lp_P hW9 hP
  have hD : va_D A (lw_W ct hd us op hm qo qa fu au ns n ck n ck 0 hh a1 a2 a3 a4 a5 a6 a7 a8 a9 b0 b1 b2 b3 b4 b5 b6 b7 b8 b9 b10 og fo ad eu es) := lp_D hW9 hD
  refine lv_icmp_eq (tgt := 1005) hx hb d_L_law_906 (by decide) (fun h1033 => ?_) (fun h1033 => ?_)
  · refine W.widen (k := cells + 1) (n := slots + 13) (by omega) (by omega) ?_
    exact kk n ck 0 hh a1 a2 a3 a4 a5 a6 a7 a8 a9 b0 b1 b2 b3 b4 b5 b6 b7 b8 b9 b10 og fo ad eu es H locs _ hnew hP hD hS (lv_sub hl [0, 1, 2, 3, 4] rfl)
  · exact absurd hval h1033
end LQ
