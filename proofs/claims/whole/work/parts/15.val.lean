theorem gd_all_cut {α : Type} (f : α → Bool) (k : Nat) (l : List α) (h : (l.take k).all f = true) (h2 : (l.drop k).all f = true) : l.all f = true := by
  rw [← List.take_append_drop k l, List.all_append, h, h2]; rfl
theorem gd_v191 : gd_c191.all (gd_okE gd_r191) = true := by
  refine gd_all_cut _ 45 _ (by have h := gd_vl0; rwa [List.drop_zero] at h) ?_
  refine gd_all_cut _ 45 _ gd_vl1 ?_
  rw [List.drop_drop]
  refine gd_all_cut _ 45 _ gd_vl2 ?_
  rw [List.drop_drop]
  refine gd_all_cut _ 45 _ gd_vl3 ?_
  rw [List.drop_drop]
  refine gd_all_cut _ 45 _ gd_vl4 ?_
  rw [List.drop_drop]
  refine gd_all_cut _ 45 _ gd_vl5 ?_
  rw [List.drop_drop]
  refine gd_all_cut _ 45 _ gd_vl6 ?_
  rw [List.drop_drop]
  refine gd_all_cut _ 45 _ gd_vl7 ?_
  rw [List.drop_drop]
  refine gd_all_cut _ 45 _ gd_vl8 ?_
  rw [List.drop_drop]
  refine gd_all_cut _ 45 _ gd_vl9 ?_
  rw [List.drop_drop]
  refine gd_all_cut _ 45 _ gd_vl10 ?_
  rw [List.drop_drop]
  refine gd_all_cut _ 45 _ gd_vl11 ?_
  rw [List.drop_drop]
  refine gd_all_cut _ 45 _ gd_vl12 ?_
  rw [List.drop_drop]
  refine gd_all_cut _ 45 _ gd_vl13 ?_
  rw [List.drop_drop]
  refine gd_all_cut _ 45 _ gd_vl14 ?_
  rw [List.drop_drop]
  refine gd_all_cut _ 45 _ gd_vl15 ?_
  rw [List.drop_drop]
  decide +kernel
def gd_okP : Nat → List gd_R → Prop
  | _, [] => True
  | k, r :: l => ((gr_code r).all (gd_okE r) = true ∧ (k < 191 → gd_okM k r = true)) ∧ gd_okP (k + 1) l
theorem gd_okP_nth : ∀ (l : List gd_R) (k n : Nat), gd_okP k l → n < l.length → (gr_code (gd_nth l n gd_rd)).all (gd_okE (gd_nth l n gd_rd)) = true ∧ (k + n < 191 → gd_okM (k + n) (gd_nth l n gd_rd) = true)
  | [], _, _, _, h => absurd h (Nat.not_lt_zero _)
  | _ :: _, _, 0, h, _ => h.1
  | _ :: l, k, n + 1, h, hn => by
    have h2 := gd_okP_nth l (k + 1) n h.2 (Nat.lt_of_succ_lt_succ hn)
    rw [show k + 1 + n = k + (n + 1) by omega] at h2
    exact h2
theorem gd_ch0 (l : List gd_R) (h : gd_okP 16 l) : gd_okP 0 (gd_r0 :: gd_r1 :: gd_r2 :: gd_r3 :: gd_r4 :: gd_r5 :: gd_r6 :: gd_r7 :: gd_r8 :: gd_r9 :: gd_r10 :: gd_r11 :: gd_r12 :: gd_r13 :: gd_r14 :: gd_r15 :: l) :=
  ⟨⟨gd_v0, fun _ => gd_w0⟩, ⟨⟨gd_v1, fun _ => gd_w1⟩, ⟨⟨gd_v2, fun _ => gd_w2⟩, ⟨⟨gd_v3, fun _ => gd_w3⟩, ⟨⟨gd_v4, fun _ => gd_w4⟩, ⟨⟨gd_v5, fun _ => gd_w5⟩, ⟨⟨gd_v6, fun _ => gd_w6⟩, ⟨⟨gd_v7, fun _ => gd_w7⟩, ⟨⟨gd_v8, fun _ => gd_w8⟩, ⟨⟨gd_v9, fun _ => gd_w9⟩, ⟨⟨gd_v10, fun _ => gd_w10⟩, ⟨⟨gd_v11, fun _ => gd_w11⟩, ⟨⟨gd_v12, fun _ => gd_w12⟩, ⟨⟨gd_v13, fun _ => gd_w13⟩, ⟨⟨gd_v14, fun _ => gd_w14⟩, ⟨⟨gd_v15, fun _ => gd_w15⟩, h⟩⟩⟩⟩⟩⟩⟩⟩⟩⟩⟩⟩⟩⟩⟩⟩
theorem gd_ch16 (l : List gd_R) (h : gd_okP 32 l) : gd_okP 16 (gd_r16 :: gd_r17 :: gd_r18 :: gd_r19 :: gd_r20 :: gd_r21 :: gd_r22 :: gd_r23 :: gd_r24 :: gd_r25 :: gd_r26 :: gd_r27 :: gd_r28 :: gd_r29 :: gd_r30 :: gd_r31 :: l) :=
  ⟨⟨gd_v16, fun _ => gd_w16⟩, ⟨⟨gd_v17, fun _ => gd_w17⟩, ⟨⟨gd_v18, fun _ => gd_w18⟩, ⟨⟨gd_v19, fun _ => gd_w19⟩, ⟨⟨gd_v20, fun _ => gd_w20⟩, ⟨⟨gd_v21, fun _ => gd_w21⟩, ⟨⟨gd_v22, fun _ => gd_w22⟩, ⟨⟨gd_v23, fun _ => gd_w23⟩, ⟨⟨gd_v24, fun _ => gd_w24⟩, ⟨⟨gd_v25, fun _ => gd_w25⟩, ⟨⟨gd_v26, fun _ => gd_w26⟩, ⟨⟨gd_v27, fun _ => gd_w27⟩, ⟨⟨gd_v28, fun _ => gd_w28⟩, ⟨⟨gd_v29, fun _ => gd_w29⟩, ⟨⟨gd_v30, fun _ => gd_w30⟩, ⟨⟨gd_v31, fun _ => gd_w31⟩, h⟩⟩⟩⟩⟩⟩⟩⟩⟩⟩⟩⟩⟩⟩⟩⟩
theorem gd_ch32 (l : List gd_R) (h : gd_okP 48 l) : gd_okP 32 (gd_r32 :: gd_r33 :: gd_r34 :: gd_r35 :: gd_r36 :: gd_r37 :: gd_r38 :: gd_r39 :: gd_r40 :: gd_r41 :: gd_r42 :: gd_r43 :: gd_r44 :: gd_r45 :: gd_r46 :: gd_r47 :: l) :=
  ⟨⟨gd_v32, fun _ => gd_w32⟩, ⟨⟨gd_v33, fun _ => gd_w33⟩, ⟨⟨gd_v34, fun _ => gd_w34⟩, ⟨⟨gd_v35, fun _ => gd_w35⟩, ⟨⟨gd_v36, fun _ => gd_w36⟩, ⟨⟨gd_v37, fun _ => gd_w37⟩, ⟨⟨gd_v38, fun _ => gd_w38⟩, ⟨⟨gd_v39, fun _ => gd_w39⟩, ⟨⟨gd_v40, fun _ => gd_w40⟩, ⟨⟨gd_v41, fun _ => gd_w41⟩, ⟨⟨gd_v42, fun _ => gd_w42⟩, ⟨⟨gd_v43, fun _ => gd_w43⟩, ⟨⟨gd_v44, fun _ => gd_w44⟩, ⟨⟨gd_v45, fun _ => gd_w45⟩, ⟨⟨gd_v46, fun _ => gd_w46⟩, ⟨⟨gd_v47, fun _ => gd_w47⟩, h⟩⟩⟩⟩⟩⟩⟩⟩⟩⟩⟩⟩⟩⟩⟩⟩
theorem gd_ch48 (l : List gd_R) (h : gd_okP 64 l) : gd_okP 48 (gd_r48 :: gd_r49 :: gd_r50 :: gd_r51 :: gd_r52 :: gd_r53 :: gd_r54 :: gd_r55 :: gd_r56 :: gd_r57 :: gd_r58 :: gd_r59 :: gd_r60 :: gd_r61 :: gd_r62 :: gd_r63 :: l) :=
  ⟨⟨gd_v48, fun _ => gd_w48⟩, ⟨⟨gd_v49, fun _ => gd_w49⟩, ⟨⟨gd_v50, fun _ => gd_w50⟩, ⟨⟨gd_v51, fun _ => gd_w51⟩, ⟨⟨gd_v52, fun _ => gd_w52⟩, ⟨⟨gd_v53, fun _ => gd_w53⟩, ⟨⟨gd_v54, fun _ => gd_w54⟩, ⟨⟨gd_v55, fun _ => gd_w55⟩, ⟨⟨gd_v56, fun _ => gd_w56⟩, ⟨⟨gd_v57, fun _ => gd_w57⟩, ⟨⟨gd_v58, fun _ => gd_w58⟩, ⟨⟨gd_v59, fun _ => gd_w59⟩, ⟨⟨gd_v60, fun _ => gd_w60⟩, ⟨⟨gd_v61, fun _ => gd_w61⟩, ⟨⟨gd_v62, fun _ => gd_w62⟩, ⟨⟨gd_v63, fun _ => gd_w63⟩, h⟩⟩⟩⟩⟩⟩⟩⟩⟩⟩⟩⟩⟩⟩⟩⟩
theorem gd_ch64 (l : List gd_R) (h : gd_okP 80 l) : gd_okP 64 (gd_r64 :: gd_r65 :: gd_r66 :: gd_r67 :: gd_r68 :: gd_r69 :: gd_r70 :: gd_r71 :: gd_r72 :: gd_r73 :: gd_r74 :: gd_r75 :: gd_r76 :: gd_r77 :: gd_r78 :: gd_r79 :: l) :=
  ⟨⟨gd_v64, fun _ => gd_w64⟩, ⟨⟨gd_v65, fun _ => gd_w65⟩, ⟨⟨gd_v66, fun _ => gd_w66⟩, ⟨⟨gd_v67, fun _ => gd_w67⟩, ⟨⟨gd_v68, fun _ => gd_w68⟩, ⟨⟨gd_v69, fun _ => gd_w69⟩, ⟨⟨gd_v70, fun _ => gd_w70⟩, ⟨⟨gd_v71, fun _ => gd_w71⟩, ⟨⟨gd_v72, fun _ => gd_w72⟩, ⟨⟨gd_v73, fun _ => gd_w73⟩, ⟨⟨gd_v74, fun _ => gd_w74⟩, ⟨⟨gd_v75, fun _ => gd_w75⟩, ⟨⟨gd_v76, fun _ => gd_w76⟩, ⟨⟨gd_v77, fun _ => gd_w77⟩, ⟨⟨gd_v78, fun _ => gd_w78⟩, ⟨⟨gd_v79, fun _ => gd_w79⟩, h⟩⟩⟩⟩⟩⟩⟩⟩⟩⟩⟩⟩⟩⟩⟩⟩
theorem gd_ch80 (l : List gd_R) (h : gd_okP 96 l) : gd_okP 80 (gd_r80 :: gd_r81 :: gd_r82 :: gd_r83 :: gd_r84 :: gd_r85 :: gd_r86 :: gd_r87 :: gd_r88 :: gd_r89 :: gd_r90 :: gd_r91 :: gd_r92 :: gd_r93 :: gd_r94 :: gd_r95 :: l) :=
  ⟨⟨gd_v80, fun _ => gd_w80⟩, ⟨⟨gd_v81, fun _ => gd_w81⟩, ⟨⟨gd_v82, fun _ => gd_w82⟩, ⟨⟨gd_v83, fun _ => gd_w83⟩, ⟨⟨gd_v84, fun _ => gd_w84⟩, ⟨⟨gd_v85, fun _ => gd_w85⟩, ⟨⟨gd_v86, fun _ => gd_w86⟩, ⟨⟨gd_v87, fun _ => gd_w87⟩, ⟨⟨gd_v88, fun _ => gd_w88⟩, ⟨⟨gd_v89, fun _ => gd_w89⟩, ⟨⟨gd_v90, fun _ => gd_w90⟩, ⟨⟨gd_v91, fun _ => gd_w91⟩, ⟨⟨gd_v92, fun _ => gd_w92⟩, ⟨⟨gd_v93, fun _ => gd_w93⟩, ⟨⟨gd_v94, fun _ => gd_w94⟩, ⟨⟨gd_v95, fun _ => gd_w95⟩, h⟩⟩⟩⟩⟩⟩⟩⟩⟩⟩⟩⟩⟩⟩⟩⟩
theorem gd_ch96 (l : List gd_R) (h : gd_okP 112 l) : gd_okP 96 (gd_r96 :: gd_r97 :: gd_r98 :: gd_r99 :: gd_r100 :: gd_r101 :: gd_r102 :: gd_r103 :: gd_r104 :: gd_r105 :: gd_r106 :: gd_r107 :: gd_r108 :: gd_r109 :: gd_r110 :: gd_r111 :: l) :=
  ⟨⟨gd_v96, fun _ => gd_w96⟩, ⟨⟨gd_v97, fun _ => gd_w97⟩, ⟨⟨gd_v98, fun _ => gd_w98⟩, ⟨⟨gd_v99, fun _ => gd_w99⟩, ⟨⟨gd_v100, fun _ => gd_w100⟩, ⟨⟨gd_v101, fun _ => gd_w101⟩, ⟨⟨gd_v102, fun _ => gd_w102⟩, ⟨⟨gd_v103, fun _ => gd_w103⟩, ⟨⟨gd_v104, fun _ => gd_w104⟩, ⟨⟨gd_v105, fun _ => gd_w105⟩, ⟨⟨gd_v106, fun _ => gd_w106⟩, ⟨⟨gd_v107, fun _ => gd_w107⟩, ⟨⟨gd_v108, fun _ => gd_w108⟩, ⟨⟨gd_v109, fun _ => gd_w109⟩, ⟨⟨gd_v110, fun _ => gd_w110⟩, ⟨⟨gd_v111, fun _ => gd_w111⟩, h⟩⟩⟩⟩⟩⟩⟩⟩⟩⟩⟩⟩⟩⟩⟩⟩
theorem gd_ch112 (l : List gd_R) (h : gd_okP 128 l) : gd_okP 112 (gd_r112 :: gd_r113 :: gd_r114 :: gd_r115 :: gd_r116 :: gd_r117 :: gd_r118 :: gd_r119 :: gd_r120 :: gd_r121 :: gd_r122 :: gd_r123 :: gd_r124 :: gd_r125 :: gd_r126 :: gd_r127 :: l) :=
  ⟨⟨gd_v112, fun _ => gd_w112⟩, ⟨⟨gd_v113, fun _ => gd_w113⟩, ⟨⟨gd_v114, fun _ => gd_w114⟩, ⟨⟨gd_v115, fun _ => gd_w115⟩, ⟨⟨gd_v116, fun _ => gd_w116⟩, ⟨⟨gd_v117, fun _ => gd_w117⟩, ⟨⟨gd_v118, fun _ => gd_w118⟩, ⟨⟨gd_v119, fun _ => gd_w119⟩, ⟨⟨gd_v120, fun _ => gd_w120⟩, ⟨⟨gd_v121, fun _ => gd_w121⟩, ⟨⟨gd_v122, fun _ => gd_w122⟩, ⟨⟨gd_v123, fun _ => gd_w123⟩, ⟨⟨gd_v124, fun _ => gd_w124⟩, ⟨⟨gd_v125, fun _ => gd_w125⟩, ⟨⟨gd_v126, fun _ => gd_w126⟩, ⟨⟨gd_v127, fun _ => gd_w127⟩, h⟩⟩⟩⟩⟩⟩⟩⟩⟩⟩⟩⟩⟩⟩⟩⟩
theorem gd_ch128 (l : List gd_R) (h : gd_okP 144 l) : gd_okP 128 (gd_r128 :: gd_r129 :: gd_r130 :: gd_r131 :: gd_r132 :: gd_r133 :: gd_r134 :: gd_r135 :: gd_r136 :: gd_r137 :: gd_r138 :: gd_r139 :: gd_r140 :: gd_r141 :: gd_r142 :: gd_r143 :: l) :=
  ⟨⟨gd_v128, fun _ => gd_w128⟩, ⟨⟨gd_v129, fun _ => gd_w129⟩, ⟨⟨gd_v130, fun _ => gd_w130⟩, ⟨⟨gd_v131, fun _ => gd_w131⟩, ⟨⟨gd_v132, fun _ => gd_w132⟩, ⟨⟨gd_v133, fun _ => gd_w133⟩, ⟨⟨gd_v134, fun _ => gd_w134⟩, ⟨⟨gd_v135, fun _ => gd_w135⟩, ⟨⟨gd_v136, fun _ => gd_w136⟩, ⟨⟨gd_v137, fun _ => gd_w137⟩, ⟨⟨gd_v138, fun _ => gd_w138⟩, ⟨⟨gd_v139, fun _ => gd_w139⟩, ⟨⟨gd_v140, fun _ => gd_w140⟩, ⟨⟨gd_v141, fun _ => gd_w141⟩, ⟨⟨gd_v142, fun _ => gd_w142⟩, ⟨⟨gd_v143, fun _ => gd_w143⟩, h⟩⟩⟩⟩⟩⟩⟩⟩⟩⟩⟩⟩⟩⟩⟩⟩
theorem gd_ch144 (l : List gd_R) (h : gd_okP 160 l) : gd_okP 144 (gd_r144 :: gd_r145 :: gd_r146 :: gd_r147 :: gd_r148 :: gd_r149 :: gd_r150 :: gd_r151 :: gd_r152 :: gd_r153 :: gd_r154 :: gd_r155 :: gd_r156 :: gd_r157 :: gd_r158 :: gd_r159 :: l) :=
  ⟨⟨gd_v144, fun _ => gd_w144⟩, ⟨⟨gd_v145, fun _ => gd_w145⟩, ⟨⟨gd_v146, fun _ => gd_w146⟩, ⟨⟨gd_v147, fun _ => gd_w147⟩, ⟨⟨gd_v148, fun _ => gd_w148⟩, ⟨⟨gd_v149, fun _ => gd_w149⟩, ⟨⟨gd_v150, fun _ => gd_w150⟩, ⟨⟨gd_v151, fun _ => gd_w151⟩, ⟨⟨gd_v152, fun _ => gd_w152⟩, ⟨⟨gd_v153, fun _ => gd_w153⟩, ⟨⟨gd_v154, fun _ => gd_w154⟩, ⟨⟨gd_v155, fun _ => gd_w155⟩, ⟨⟨gd_v156, fun _ => gd_w156⟩, ⟨⟨gd_v157, fun _ => gd_w157⟩, ⟨⟨gd_v158, fun _ => gd_w158⟩, ⟨⟨gd_v159, fun _ => gd_w159⟩, h⟩⟩⟩⟩⟩⟩⟩⟩⟩⟩⟩⟩⟩⟩⟩⟩
theorem gd_ch160 (l : List gd_R) (h : gd_okP 176 l) : gd_okP 160 (gd_r160 :: gd_r161 :: gd_r162 :: gd_r163 :: gd_r164 :: gd_r165 :: gd_r166 :: gd_r167 :: gd_r168 :: gd_r169 :: gd_r170 :: gd_r171 :: gd_r172 :: gd_r173 :: gd_r174 :: gd_r175 :: l) :=
  ⟨⟨gd_v160, fun _ => gd_w160⟩, ⟨⟨gd_v161, fun _ => gd_w161⟩, ⟨⟨gd_v162, fun _ => gd_w162⟩, ⟨⟨gd_v163, fun _ => gd_w163⟩, ⟨⟨gd_v164, fun _ => gd_w164⟩, ⟨⟨gd_v165, fun _ => gd_w165⟩, ⟨⟨gd_v166, fun _ => gd_w166⟩, ⟨⟨gd_v167, fun _ => gd_w167⟩, ⟨⟨gd_v168, fun _ => gd_w168⟩, ⟨⟨gd_v169, fun _ => gd_w169⟩, ⟨⟨gd_v170, fun _ => gd_w170⟩, ⟨⟨gd_v171, fun _ => gd_w171⟩, ⟨⟨gd_v172, fun _ => gd_w172⟩, ⟨⟨gd_v173, fun _ => gd_w173⟩, ⟨⟨gd_v174, fun _ => gd_w174⟩, ⟨⟨gd_v175, fun _ => gd_w175⟩, h⟩⟩⟩⟩⟩⟩⟩⟩⟩⟩⟩⟩⟩⟩⟩⟩
theorem gd_ch176 (l : List gd_R) (h : gd_okP 192 l) : gd_okP 176 (gd_r176 :: gd_r177 :: gd_r178 :: gd_r179 :: gd_r180 :: gd_r181 :: gd_r182 :: gd_r183 :: gd_r184 :: gd_r185 :: gd_r186 :: gd_r187 :: gd_r188 :: gd_r189 :: gd_r190 :: gd_r191 :: l) :=
  ⟨⟨gd_v176, fun _ => gd_w176⟩, ⟨⟨gd_v177, fun _ => gd_w177⟩, ⟨⟨gd_v178, fun _ => gd_w178⟩, ⟨⟨gd_v179, fun _ => gd_w179⟩, ⟨⟨gd_v180, fun _ => gd_w180⟩, ⟨⟨gd_v181, fun _ => gd_w181⟩, ⟨⟨gd_v182, fun _ => gd_w182⟩, ⟨⟨gd_v183, fun _ => gd_w183⟩, ⟨⟨gd_v184, fun _ => gd_w184⟩, ⟨⟨gd_v185, fun _ => gd_w185⟩, ⟨⟨gd_v186, fun _ => gd_w186⟩, ⟨⟨gd_v187, fun _ => gd_w187⟩, ⟨⟨gd_v188, fun _ => gd_w188⟩, ⟨⟨gd_v189, fun _ => gd_w189⟩, ⟨⟨gd_v190, fun _ => gd_w190⟩, ⟨⟨gd_v191, fun h => absurd h (by decide)⟩, h⟩⟩⟩⟩⟩⟩⟩⟩⟩⟩⟩⟩⟩⟩⟩⟩
theorem gd_okall : gd_okP 0 gd_mt := gd_ch0 _ (gd_ch16 _ (gd_ch32 _ (gd_ch48 _ (gd_ch64 _ (gd_ch80 _ (gd_ch96 _ (gd_ch112 _ (gd_ch128 _ (gd_ch144 _ (gd_ch160 _ (gd_ch176 _ (True.intro))))))))))))
theorem gd_len : gd_mt.length = 192 := by decide +kernel
theorem gd_nth_over : ∀ {α : Type} (l : List α) (n : Nat) (d : α), l.length ≤ n → gd_nth l n d = d
  | _, [], _, _, _ => rfl
  | _, _ :: _, 0, _, h => absurd h (Nat.not_succ_le_zero _)
  | _, _ :: l, n + 1, d, h => gd_nth_over l n d (Nat.le_of_succ_le_succ h)
theorem gd_find_spec : ∀ (l : List gd_E) (pc : Nat) (e : gd_E), gd_find l pc = some e → e ∈ l ∧ e.1 = pc
  | [], _, _, h => nomatch h
  | x :: l, pc, e, h => by
    unfold gd_find at h
    cases hb : Nat.beq x.1 pc with
    | true =>
      rw [hb] at h
      cases h
      exact ⟨List.mem_cons_self, Nat.eq_of_beq_eq_true hb⟩
    | false =>
      rw [hb] at h
      have h2 := gd_find_spec l pc e h
      exact ⟨List.mem_cons_of_mem _ h2.1, h2.2⟩
theorem gd_rc_ok (M : Nat) (h : M < 192) : (gr_code (gd_rc M)).all (gd_okE (gd_rc M)) = true ∧ (M < 191 → gd_okM M (gd_rc M) = true) := by
  have h2 := gd_okP_nth gd_mt 0 M gd_okall (by rw [gd_len]; exact h)
  rw [Nat.zero_add] at h2
  exact h2
/-- every row that is fetched is right -/
theorem gd_row_ok {M pc : Nat} {e : gd_E} (h : gd_find (gr_code (gd_rc M)) pc = some e) : gd_okE (gd_rc M) e = true ∧ e.1 = pc ∧ M < 192 := by
  have h3 := gd_find_spec _ _ _ h
  by_cases hM : M < 192
  · exact ⟨List.all_eq_true.mp (gd_rc_ok M hM).1 e h3.1, h3.2, hM⟩
  · have h4 : gd_rc M = gd_rd := gd_nth_over gd_mt M gd_rd (by rw [gd_len]; omega)
    rw [h4] at h3
    exact absurd h3.1 List.not_mem_nil
