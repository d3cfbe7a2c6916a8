theorem dX4_node_7 : decode cX4_node 7 = .ok (.ireturn, 1) := by decide +kernel
theorem dX4_observed_0 : decode cX4_observed 0 = .ok (.aload_n 0, 1) := by decide +kernel
theorem dX4_observed_1 : decode cX4_observed 1 = .ok (.getfield 27, 3) := by decide +kernel
theorem dX4_observed_4 : decode cX4_observed 4 = .ok (.getfield 103, 3) := by decide +kernel
theorem dX4_observed_7 : decode cX4_observed 7 = .ok (.ireturn, 1) := by decide +kernel
theorem dX4_error_0 : decode cX4_error 0 = .ok (.aload_n 0, 1) := by decide +kernel
theorem dX4_error_1 : decode cX4_error 1 = .ok (.getfield 27, 3) := by decide +kernel
theorem dX4_error_4 : decode cX4_error 4 = .ok (.getfield 155, 3) := by decide +kernel
theorem dX4_error_7 : decode cX4_error 7 = .ok (.lreturn, 1) := by decide +kernel
theorem dX4_meanError_0 : decode cX4_meanError 0 = .ok (.aload_n 0, 1) := by decide +kernel
theorem dX4_meanError_1 : decode cX4_meanError 1 = .ok (.getfield 27, 3) := by decide +kernel
theorem dX4_meanError_4 : decode cX4_meanError 4 = .ok (.getfield 103, 3) := by decide +kernel
theorem dX4_meanError_7 : decode cX4_meanError 7 = .ok (.ifCond .gt 5, 3) := by decide +kernel
theorem dX4_meanError_10 : decode cX4_meanError 10 = .ok (.dconst 0, 1) := by decide +kernel
theorem dX4_meanError_11 : decode cX4_meanError 11 = .ok (.dreturn, 1) := by decide +kernel
theorem dX4_meanError_12 : decode cX4_meanError 12 = .ok (.aload_n 0, 1) := by decide +kernel
theorem dX4_meanError_13 : decode cX4_meanError 13 = .ok (.getfield 27, 3) := by decide +kernel
theorem dX4_meanError_16 : decode cX4_meanError 16 = .ok (.getfield 155, 3) := by decide +kernel
theorem dX4_meanError_19 : decode cX4_meanError 19 = .ok (.l2d, 1) := by decide +kernel
theorem dX4_meanError_20 : decode cX4_meanError 20 = .ok (.ldc2_w 159, 3) := by decide +kernel
theorem dX4_meanError_23 : decode cX4_meanError 23 = .ok (.aload_n 0, 1) := by decide +kernel
theorem dX4_meanError_24 : decode cX4_meanError 24 = .ok (.getfield 27, 3) := by decide +kernel
theorem dX4_meanError_27 : decode cX4_meanError 27 = .ok (.getfield 103, 3) := by decide +kernel
theorem dX4_meanError_30 : decode cX4_meanError 30 = .ok (.i2d, 1) := by decide +kernel
theorem dX4_meanError_31 : decode cX4_meanError 31 = .ok (.dmul, 1) := by decide +kernel
theorem dX4_meanError_32 : decode cX4_meanError 32 = .ok (.ddiv, 1) := by decide +kernel
theorem dX4_meanError_33 : decode cX4_meanError 33 = .ok (.dreturn, 1) := by decide +kernel
set_option maxRecDepth 20000 in
theorem ggX4_encode_X3_restart : GoodIn wsX4_encode wsX3_restart := goodIn_r _ [10, 11, 12, 13, 14, 15, 16, 17, 18, 19, 20, 21, 22, 23, 24, 25, 26, 27, 28, 29, 30, 31, 32, 33, 34, 35, 36, 37, 9, 38, 39, 40, 41, 42, 43, 44, 45, 46, 47, 48, 49, 50, 51, 52, 53, 54, 55, 56, 57, 58, 59, 60, 61, 62, 63, 64, 162, 163, 164, 165, 166, 167, 168, 169, 170, 171, 172, 173, 174, 175, 176, 177, 178] (by decide +kernel) (by decide +kernel)
set_option maxRecDepth 20000 in
theorem gX4_encode_X3_restart : GoodIn wsX4_encode (wsV RX4 77 RX3 yX3_restart wsX3_restart) := goodIn_app (goodIn_of _ (by decide +kernel)) ggX4_encode_X3_restart
set_option maxRecDepth 20000 in
theorem ggX4_encode_X1_open : GoodIn wsX4_encode wsX1_open := goodIn_r _ [69, 70, 71, 72, 73, 74, 179, 180, 181, 182] (by decide +kernel) (by decide +kernel)
set_option maxRecDepth 20000 in
theorem gX4_encode_X1_open : GoodIn wsX4_encode (wsV RX4 161 RX1 yX1_open wsX1_open) := goodIn_app (goodIn_of _ (by decide +kernel)) ggX4_encode_X1_open
set_option maxRecDepth 20000 in
theorem ggX4_encode_X0_clear : GoodIn wsX4_encode wsX0_clear := goodIn_r _ [79, 80, 160, 161] (by decide +kernel) (by decide +kernel)
set_option maxRecDepth 20000 in
theorem gX4_encode_X0_clear : GoodIn wsX4_encode (wsV RX4 164 RX0 yX0_clear wsX0_clear) := goodIn_app (goodIn_of _ (by decide +kernel)) ggX4_encode_X0_clear
set_option maxRecDepth 20000 in
theorem ggX4_encode_X0_at : GoodIn wsX4_encode wsX0_at := goodIn_r _ [84, 85, 86, 87, 88, 78, 89, 80, 160, 161] (by decide +kernel) (by decide +kernel)
set_option maxRecDepth 20000 in
theorem gX4_encode_X0_at : GoodIn wsX4_encode (wsV RX4 167 RX0 yX0_at wsX0_at) := goodIn_app (goodIn_of _ (by decide +kernel)) ggX4_encode_X0_at
set_option maxRecDepth 20000 in
theorem ggX4_encode_X4_encodeByte : GoodIn wsX4_encode wsX4_encodeByte := goodIn_r _ [94, 1, 2, 3, 95, 96, 97, 9, 98, 11, 12, 99, 15, 100, 62, 63, 64, 101, 102, 103, 104, 105, 106, 21, 107, 23, 55, 108, 109, 110, 68, 111, 70, 72, 112, 113, 114, 115, 116, 117, 118, 119, 120, 121, 122, 123, 124, 125, 126, 127, 71, 128, 129, 130, 131, 78, 132, 80, 85, 133, 134, 135, 136, 17, 16, 137, 93, 138, 139, 140, 141, 142, 25, 143, 61, 144, 145, 146, 147, 148, 149, 150, 24, 54, 26, 151, 152, 153, 154, 14, 13, 35, 36, 37, 38, 39, 40, 41, 42, 43, 44, 45, 46, 47, 48, 49, 50, 51, 52, 53, 56, 57, 58, 59, 60, 155, 156, 157, 158, 159, 162, 163, 164, 165, 166, 167, 168, 169, 170, 171, 172, 173, 174, 175, 176, 177, 178, 179, 180, 181, 182, 160, 161] (by decide +kernel) (by decide +kernel)
set_option maxRecDepth 20000 in
theorem gX4_encode_X4_encodeByte : GoodIn wsX4_encode (wsV RX4 171 RX4 yX4_encodeByte wsX4_encodeByte) := goodIn_app (goodIn_of _ (by decide +kernel)) ggX4_encode_X4_encodeByte
set_option maxRecDepth 20000 in
theorem ggX4_encode_X1_shift : GoodIn wsX4_encode wsX1_shift := goodIn_r _ [127, 70, 71, 72, 128, 121, 122, 68, 123, 179, 180, 181, 182] (by decide +kernel) (by decide +kernel)
set_option maxRecDepth 20000 in
theorem gX4_encode_X1_shift : GoodIn wsX4_encode (wsV RX4 174 RX1 yX1_shift wsX1_shift) := goodIn_app (goodIn_of _ (by decide +kernel)) ggX4_encode_X1_shift
set_option maxRecDepth 20000 in
theorem ggX4_encode_X0_append : GoodIn wsX4_encode wsX0_append := goodIn_r _ [132, 80, 85, 160, 161] (by decide +kernel) (by decide +kernel)
set_option maxRecDepth 20000 in
theorem gX4_encode_X0_append : GoodIn wsX4_encode (wsV RX4 85 RX0 yX0_append wsX0_append) := goodIn_app (goodIn_of _ (by decide +kernel)) ggX4_encode_X0_append
theorem dX4_encode_0 : decode cX4_encode 0 = .ok (.aload_n 0, 1) := by decide +kernel
theorem dX4_encode_1 : decode cX4_encode 1 = .ok (.getfield 27, 3) := by decide +kernel
theorem dX4_encode_4 : decode cX4_encode 4 = .ok (.invokevirtual 77, 3) := by decide +kernel
theorem dX4_encode_7 : decode cX4_encode 7 = .ok (.aload_n 0, 1) := by decide +kernel
theorem dX4_encode_8 : decode cX4_encode 8 = .ok (.getfield 34, 3) := by decide +kernel
theorem dX4_encode_11 : decode cX4_encode 11 = .ok (.invokevirtual 161, 3) := by decide +kernel
theorem dX4_encode_14 : decode cX4_encode 14 = .ok (.aload_n 0, 1) := by decide +kernel
theorem dX4_encode_15 : decode cX4_encode 15 = .ok (.getfield 18, 3) := by decide +kernel
theorem dX4_encode_18 : decode cX4_encode 18 = .ok (.invokevirtual 164, 3) := by decide +kernel
theorem dX4_encode_21 : decode cX4_encode 21 = .ok (.iconst 0, 1) := by decide +kernel
theorem dX4_encode_22 : decode cX4_encode 22 = .ok (.istore_n 1, 1) := by decide +kernel
theorem dX4_encode_23 : decode cX4_encode 23 = .ok (.iload_n 1, 1) := by decide +kernel
theorem dX4_encode_24 : decode cX4_encode 24 = .ok (.aload_n 0, 1) := by decide +kernel
theorem dX4_encode_25 : decode cX4_encode 25 = .ok (.getfield 14, 3) := by decide +kernel
theorem dX4_encode_28 : decode cX4_encode 28 = .ok (.getfield 88, 3) := by decide +kernel
theorem dX4_encode_31 : decode cX4_encode 31 = .ok (.if_icmp .ge 21, 3) := by decide +kernel
theorem dX4_encode_34 : decode cX4_encode 34 = .ok (.aload_n 0, 1) := by decide +kernel
theorem dX4_encode_35 : decode cX4_encode 35 = .ok (.aload_n 0, 1) := by decide +kernel
theorem dX4_encode_36 : decode cX4_encode 36 = .ok (.getfield 14, 3) := by decide +kernel
theorem dX4_encode_39 : decode cX4_encode 39 = .ok (.iload_n 1, 1) := by decide +kernel
theorem dX4_encode_40 : decode cX4_encode 40 = .ok (.invokevirtual 167, 3) := by decide +kernel
theorem dX4_encode_43 : decode cX4_encode 43 = .ok (.invokevirtual 171, 3) := by decide +kernel
theorem dX4_encode_46 : decode cX4_encode 46 = .ok (.iinc 1 1, 3) := by decide +kernel
theorem dX4_encode_49 : decode cX4_encode 49 = .ok (.goto (-26), 3) := by decide +kernel
theorem dX4_encode_52 : decode cX4_encode 52 = .ok (.iconst 0, 1) := by decide +kernel
theorem dX4_encode_53 : decode cX4_encode 53 = .ok (.istore_n 1, 1) := by decide +kernel
theorem dX4_encode_54 : decode cX4_encode 54 = .ok (.iload_n 1, 1) := by decide +kernel
theorem dX4_encode_55 : decode cX4_encode 55 = .ok (.iconst 4, 1) := by decide +kernel
theorem dX4_encode_56 : decode cX4_encode 56 = .ok (.if_icmp .ge 23, 3) := by decide +kernel
theorem dX4_encode_59 : decode cX4_encode 59 = .ok (.aload_n 0, 1) := by decide +kernel
theorem dX4_encode_60 : decode cX4_encode 60 = .ok (.getfield 18, 3) := by decide +kernel
theorem dX4_encode_63 : decode cX4_encode 63 = .ok (.aload_n 0, 1) := by decide +kernel
theorem dX4_encode_64 : decode cX4_encode 64 = .ok (.getfield 34, 3) := by decide +kernel
theorem dX4_encode_67 : decode cX4_encode 67 = .ok (.invokevirtual 174, 3) := by decide +kernel
theorem dX4_encode_70 : decode cX4_encode 70 = .ok (.invokevirtual 85, 3) := by decide +kernel
theorem dX4_encode_73 : decode cX4_encode 73 = .ok (.iinc 1 1, 3) := by decide +kernel
theorem dX4_encode_76 : decode cX4_encode 76 = .ok (.goto (-22), 3) := by decide +kernel
theorem dX4_encode_79 : decode cX4_encode 79 = .ok (.aload_n 0, 1) := by decide +kernel
theorem dX4_encode_80 : decode cX4_encode 80 = .ok (.getfield 18, 3) := by decide +kernel
theorem dX4_encode_83 : decode cX4_encode 83 = .ok (.getfield 88, 3) := by decide +kernel
theorem dX4_encode_86 : decode cX4_encode 86 = .ok (.ireturn, 1) := by decide +kernel
theorem dX4_codeSize_0 : decode cX4_codeSize 0 = .ok (.aload_n 0, 1) := by decide +kernel
theorem dX4_codeSize_1 : decode cX4_codeSize 1 = .ok (.getfield 18, 3) := by decide +kernel
theorem dX4_codeSize_4 : decode cX4_codeSize 4 = .ok (.getfield 88, 3) := by decide +kernel
theorem dX4_codeSize_7 : decode cX4_codeSize 7 = .ok (.ireturn, 1) := by decide +kernel
set_option maxRecDepth 20000 in
theorem ggX4_code_X4_requirePlace : GoodIn wsX4_code wsX4_requirePlace := goodIn_ca (goodIn_r _ [5, 6, 7, 8, 9, 10, 11, 12, 13, 14, 15, 16, 17, 18, 19, 25, 26] (by decide +kernel) (by decide +kernel)) (goodIn_sub (fun _ h => List.mem_cons_of_mem _ (List.mem_append_right _ h)) (by decide +kernel))
set_option maxRecDepth 20000 in
theorem gX4_code_X4_requirePlace : GoodIn wsX4_code (va_wsS RX4 100 yX4_requirePlace wsX4_requirePlace) := goodIn_app (goodIn_of _ (by decide +kernel)) ggX4_code_X4_requirePlace
theorem dX4_code_0 : decode cX4_code 0 = .ok (.aload_n 0, 1) := by decide +kernel
theorem dX4_code_1 : decode cX4_code 1 = .ok (.getfield 18, 3) := by decide +kernel
theorem dX4_code_4 : decode cX4_code 4 = .ok (.iload_n 1, 1) := by decide +kernel
theorem dX4_code_5 : decode cX4_code 5 = .ok (.invokestatic 100, 3) := by decide +kernel
theorem dX4_code_8 : decode cX4_code 8 = .ok (.ireturn, 1) := by decide +kernel
set_option maxRecDepth 20000 in
theorem ggX4_setCode_X4_requirePlace : GoodIn wsX4_setCode wsX4_requirePlace := goodIn_ca (goodIn_r _ [5, 6, 7, 8, 9, 10, 11, 12, 13, 14, 15, 16, 17, 18, 19, 34, 35] (by decide +kernel) (by decide +kernel)) (goodIn_sub (fun _ h => List.mem_cons_of_mem _ (List.mem_append_left _ (List.mem_append_right _ h))) (by decide +kernel))
set_option maxRecDepth 20000 in
theorem gX4_setCode_X4_requirePlace : GoodIn wsX4_setCode (va_wsS RX4 100 yX4_requirePlace wsX4_requirePlace) := goodIn_app (goodIn_of _ (by decide +kernel)) ggX4_setCode_X4_requirePlace
set_option maxRecDepth 20000 in
theorem ggX4_setCode_X4_requireByte : GoodIn wsX4_setCode wsX4_requireByte := goodIn_ca (goodIn_r _ [22, 23, 24] (by decide +kernel) (by decide +kernel)) (goodIn_sub (fun _ h => List.mem_cons_of_mem _ (List.mem_append_right _ h)) (by decide +kernel))
set_option maxRecDepth 20000 in
theorem gX4_setCode_X4_requireByte : GoodIn wsX4_setCode (va_wsS RX4 91 yX4_requireByte wsX4_requireByte) := goodIn_app (goodIn_of _ (by decide +kernel)) ggX4_setCode_X4_requireByte
set_option maxRecDepth 20000 in
theorem ggX4_setCode_X0_put : GoodIn wsX4_setCode wsX0_put := goodIn_r _ [28, 14, 19, 9, 10, 11, 12, 13, 34, 35] (by decide +kernel) (by decide +kernel)
set_option maxRecDepth 20000 in
theorem gX4_setCode_X0_put : GoodIn wsX4_setCode (wsV RX4 177 RX0 yX0_put wsX0_put) := goodIn_app (goodIn_of _ (by decide +kernel)) ggX4_setCode_X0_put
theorem dX4_setCode_0 : decode cX4_setCode 0 = .ok (.aload_n 0, 1) := by decide +kernel
theorem dX4_setCode_1 : decode cX4_setCode 1 = .ok (.getfield 18, 3) := by decide +kernel
theorem dX4_setCode_4 : decode cX4_setCode 4 = .ok (.iload_n 1, 1) := by decide +kernel
theorem dX4_setCode_5 : decode cX4_setCode 5 = .ok (.invokestatic 100, 3) := by decide +kernel
theorem dX4_setCode_8 : decode cX4_setCode 8 = .ok (.istore_n 3, 1) := by decide +kernel
theorem dX4_setCode_9 : decode cX4_setCode 9 = .ok (.iload_n 2, 1) := by decide +kernel
theorem dX4_setCode_10 : decode cX4_setCode 10 = .ok (.invokestatic 91, 3) := by decide +kernel
theorem dX4_setCode_13 : decode cX4_setCode 13 = .ok (.aload_n 0, 1) := by decide +kernel
theorem dX4_setCode_14 : decode cX4_setCode 14 = .ok (.getfield 18, 3) := by decide +kernel
theorem dX4_setCode_17 : decode cX4_setCode 17 = .ok (.iload_n 1, 1) := by decide +kernel
theorem dX4_setCode_18 : decode cX4_setCode 18 = .ok (.iload_n 2, 1) := by decide +kernel
theorem dX4_setCode_19 : decode cX4_setCode 19 = .ok (.invokevirtual 177, 3) := by decide +kernel
theorem dX4_setCode_22 : decode cX4_setCode 22 = .ok (.iload_n 3, 1) := by decide +kernel
theorem dX4_setCode_23 : decode cX4_setCode 23 = .ok (.ireturn, 1) := by decide +kernel
set_option maxRecDepth 20000 in
theorem ggX4_cutCode_X4_shorten : GoodIn wsX4_cutCode wsX4_shorten := goodIn_ca (goodIn_r _ [5, 6, 7, 8, 14, 15] (by decide +kernel) (by decide +kernel)) (goodIn_sub (fun _ h => List.mem_cons_of_mem _ (List.mem_append_right _ h)) (by decide +kernel))
set_option maxRecDepth 20000 in
theorem gX4_cutCode_X4_shorten : GoodIn wsX4_cutCode (va_wsS RX4 96 yX4_shorten wsX4_shorten) := goodIn_app (goodIn_of _ (by decide +kernel)) ggX4_cutCode_X4_shorten
theorem dX4_cutCode_0 : decode cX4_cutCode 0 = .ok (.aload_n 0, 1) := by decide +kernel
theorem dX4_cutCode_1 : decode cX4_cutCode 1 = .ok (.getfield 18, 3) := by decide +kernel
theorem dX4_cutCode_4 : decode cX4_cutCode 4 = .ok (.iload_n 1, 1) := by decide +kernel
theorem dX4_cutCode_5 : decode cX4_cutCode 5 = .ok (.invokestatic 96, 3) := by decide +kernel
theorem dX4_cutCode_8 : decode cX4_cutCode 8 = .ok (.ireturn, 1) := by decide +kernel
set_option maxRecDepth 20000 in
theorem ggX4_decode_X3_restart : GoodIn wsX4_decode wsX3_restart := goodIn_r _ [11, 12, 13, 14, 15, 16, 17, 18, 19, 20, 21, 22, 23, 24, 25, 26, 27, 28, 29, 30, 31, 32, 33, 34, 35, 36, 37, 38, 10, 39, 40, 41, 42, 43, 44, 45, 46, 47, 48, 49, 50, 51, 52, 53, 54, 55, 56, 57, 58, 59, 60, 61, 62, 63, 64, 65, 180, 181, 182, 183, 184, 185, 186, 187, 188, 189, 190, 191, 192, 193, 194, 195, 196] (by decide +kernel) (by decide +kernel)
set_option maxRecDepth 20000 in
theorem gX4_decode_X3_restart : GoodIn wsX4_decode (wsV RX4 77 RX3 yX3_restart wsX3_restart) := goodIn_app (goodIn_of _ (by decide +kernel)) ggX4_decode_X3_restart
set_option maxRecDepth 20000 in
theorem ggX4_decode_X1_open : GoodIn wsX4_decode wsX1_open := goodIn_r _ [70, 71, 72, 73, 74, 75, 197, 198, 199, 200] (by decide +kernel) (by decide +kernel)
set_option maxRecDepth 20000 in
theorem gX4_decode_X1_open : GoodIn wsX4_decode (wsV RX4 161 RX1 yX1_open wsX1_open) := goodIn_app (goodIn_of _ (by decide +kernel)) ggX4_decode_X1_open
set_option maxRecDepth 20000 in
theorem ggX4_decode_X1_load : GoodIn wsX4_decode wsX1_load := goodIn_r _ [79, 80, 81, 82, 69, 83, 74, 72, 75, 84, 85, 86, 87, 88, 89, 90, 91, 92, 93, 94, 197, 198, 199, 200, 201, 202] (by decide +kernel) (by decide +kernel)
set_option maxRecDepth 20000 in
theorem gX4_decode_X1_load : GoodIn wsX4_decode (wsV RX4 183 RX1 yX1_load wsX1_load) := goodIn_app (goodIn_of _ (by decide +kernel)) ggX4_decode_X1_load
set_option maxRecDepth 20000 in
theorem ggX4_decode_X0_clear : GoodIn wsX4_decode wsX0_clear := goodIn_r _ [98, 94, 201, 202] (by decide +kernel) (by decide +kernel)
set_option maxRecDepth 20000 in
theorem gX4_decode_X0_clear : GoodIn wsX4_decode (wsV RX4 164 RX0 yX0_clear wsX0_clear) := goodIn_app (goodIn_of _ (by decide +kernel)) ggX4_decode_X0_clear
set_option maxRecDepth 20000 in
theorem ggX4_decode_X4_decodeByte : GoodIn wsX4_decode wsX4_decodeByte := goodIn_r _ [103, 3, 4, 104, 5, 105, 106, 107, 10, 108, 12, 13, 109, 16, 110, 63, 64, 65, 111, 112, 113, 114, 115, 116, 22, 117, 24, 56, 118, 119, 120, 69, 121, 71, 73, 122, 123, 124, 125, 126, 127, 128, 129, 130, 131, 132, 133, 134, 135, 136, 137, 72, 138, 139, 81, 82, 83, 74, 75, 84, 85, 86, 87, 88, 89, 90, 91, 92, 93, 94, 140, 141, 142, 143, 18, 17, 144, 102, 145, 146, 147, 148, 149, 26, 150, 62, 151, 152, 153, 154, 155, 156, 157, 25, 55, 27, 158, 159, 160, 161, 15, 14, 36, 37, 38, 39, 40, 41, 42, 43, 44, 45, 46, 47, 48, 49, 50, 51, 52, 53, 54, 57, 58, 59, 60, 61, 175, 176, 177, 178, 179, 197, 198, 199, 200, 180, 181, 182, 183, 184, 185, 186, 187, 188, 189, 190, 191, 192, 193, 194, 195, 196, 201, 202] (by decide +kernel) (by decide +kernel)
set_option maxRecDepth 20000 in
theorem gX4_decode_X4_decodeByte : GoodIn wsX4_decode (wsV RX4 187 RX4 yX4_decodeByte wsX4_decodeByte) := goodIn_app (goodIn_of _ (by decide +kernel)) ggX4_decode_X4_decodeByte
set_option maxRecDepth 20000 in
theorem ggX4_decode_X0_append : GoodIn wsX4_decode wsX0_append := goodIn_r _ [165, 94, 89, 201, 202] (by decide +kernel) (by decide +kernel)
set_option maxRecDepth 20000 in
theorem gX4_decode_X0_append : GoodIn wsX4_decode (wsV RX4 85 RX0 yX0_append wsX0_append) := goodIn_app (goodIn_of _ (by decide +kernel)) ggX4_decode_X0_append
set_option maxRecDepth 20000 in
theorem ggX4_decode_X4_differences : GoodIn wsX4_decode wsX4_differences := goodIn_r _ [169, 170, 171, 6, 172, 112, 64, 113, 173, 91, 92, 87, 93, 94, 89, 174, 85, 86, 88, 90, 175, 176, 177, 178, 179, 201, 202] (by decide +kernel) (by decide +kernel)
set_option maxRecDepth 20000 in
theorem gX4_decode_X4_differences : GoodIn wsX4_decode (wsV RX4 190 RX4 yX4_differences wsX4_differences) := goodIn_app (goodIn_of _ (by decide +kernel)) ggX4_decode_X4_differences
theorem dX4_decode_0 : decode cX4_decode 0 = .ok (.iload_n 1, 1) := by decide +kernel
theorem dX4_decode_1 : decode cX4_decode 1 = .ok (.ifCond .lt 9, 3) := by decide +kernel
theorem dX4_decode_4 : decode cX4_decode 4 = .ok (.iload_n 1, 1) := by decide +kernel
theorem dX4_decode_5 : decode cX4_decode 5 = .ok (.bipush 80, 2) := by decide +kernel
theorem dX4_decode_7 : decode cX4_decode 7 = .ok (.if_icmp .le 13, 3) := by decide +kernel
theorem dX4_decode_10 : decode cX4_decode 10 = .ok (.new 38, 3) := by decide +kernel
theorem dX4_decode_13 : decode cX4_decode 13 = .ok (.dup, 1) := by decide +kernel
theorem dX4_decode_14 : decode cX4_decode 14 = .ok (.ldc 181, 2) := by decide +kernel
theorem dX4_decode_16 : decode cX4_decode 16 = .ok (.invokespecial 42, 3) := by decide +kernel
theorem dX4_decode_19 : decode cX4_decode 19 = .ok (.athrow, 1) := by decide +kernel
theorem dX4_decode_20 : decode cX4_decode 20 = .ok (.aload_n 0, 1) := by decide +kernel
theorem dX4_decode_21 : decode cX4_decode 21 = .ok (.getfield 27, 3) := by decide +kernel
theorem dX4_decode_24 : decode cX4_decode 24 = .ok (.invokevirtual 77, 3) := by decide +kernel
theorem dX4_decode_27 : decode cX4_decode 27 = .ok (.aload_n 0, 1) := by decide +kernel
theorem dX4_decode_28 : decode cX4_decode 28 = .ok (.getfield 34, 3) := by decide +kernel
theorem dX4_decode_31 : decode cX4_decode 31 = .ok (.invokevirtual 161, 3) := by decide +kernel
theorem dX4_decode_34 : decode cX4_decode 34 = .ok (.aload_n 0, 1) := by decide +kernel
theorem dX4_decode_35 : decode cX4_decode 35 = .ok (.getfield 34, 3) := by decide +kernel
theorem dX4_decode_38 : decode cX4_decode 38 = .ok (.aload_n 0, 1) := by decide +kernel
theorem dX4_decode_39 : decode cX4_decode 39 = .ok (.getfield 18, 3) := by decide +kernel
theorem dX4_decode_42 : decode cX4_decode 42 = .ok (.invokevirtual 183, 3) := by decide +kernel
theorem dX4_decode_45 : decode cX4_decode 45 = .ok (.aload_n 0, 1) := by decide +kernel
theorem dX4_decode_46 : decode cX4_decode 46 = .ok (.getfield 21, 3) := by decide +kernel
theorem dX4_decode_49 : decode cX4_decode 49 = .ok (.invokevirtual 164, 3) := by decide +kernel
theorem dX4_decode_52 : decode cX4_decode 52 = .ok (.iconst 0, 1) := by decide +kernel
theorem dX4_decode_53 : decode cX4_decode 53 = .ok (.istore_n 2, 1) := by decide +kernel
theorem dX4_decode_54 : decode cX4_decode 54 = .ok (.iload_n 2, 1) := by decide +kernel
theorem dX4_decode_55 : decode cX4_decode 55 = .ok (.iload_n 1, 1) := by decide +kernel
theorem dX4_decode_56 : decode cX4_decode 56 = .ok (.if_icmp .ge 20, 3) := by decide +kernel
theorem dX4_decode_59 : decode cX4_decode 59 = .ok (.aload_n 0, 1) := by decide +kernel
theorem dX4_decode_60 : decode cX4_decode 60 = .ok (.getfield 21, 3) := by decide +kernel
theorem dX4_decode_63 : decode cX4_decode 63 = .ok (.aload_n 0, 1) := by decide +kernel
theorem dX4_decode_64 : decode cX4_decode 64 = .ok (.invokevirtual 187, 3) := by decide +kernel
theorem dX4_decode_67 : decode cX4_decode 67 = .ok (.invokevirtual 85, 3) := by decide +kernel
theorem dX4_decode_70 : decode cX4_decode 70 = .ok (.iinc 2 1, 3) := by decide +kernel
theorem dX4_decode_73 : decode cX4_decode 73 = .ok (.goto (-19), 3) := by decide +kernel
theorem dX4_decode_76 : decode cX4_decode 76 = .ok (.aload_n 0, 1) := by decide +kernel
theorem dX4_decode_77 : decode cX4_decode 77 = .ok (.invokevirtual 190, 3) := by decide +kernel
theorem dX4_decode_80 : decode cX4_decode 80 = .ok (.ireturn, 1) := by decide +kernel
theorem dX4_outputSize_0 : decode cX4_outputSize 0 = .ok (.aload_n 0, 1) := by decide +kernel
theorem dX4_outputSize_1 : decode cX4_outputSize 1 = .ok (.getfield 21, 3) := by decide +kernel
theorem dX4_outputSize_4 : decode cX4_outputSize 4 = .ok (.getfield 88, 3) := by decide +kernel
theorem dX4_outputSize_7 : decode cX4_outputSize 7 = .ok (.ireturn, 1) := by decide +kernel
set_option maxRecDepth 20000 in
theorem ggX4_output_X4_requirePlace : GoodIn wsX4_output wsX4_requirePlace := goodIn_ca (goodIn_r _ [5, 6, 7, 8, 9, 10, 11, 12, 13, 14, 15, 16, 17, 18, 19, 25, 26] (by decide +kernel) (by decide +kernel)) (goodIn_sub (fun _ h => List.mem_cons_of_mem _ (List.mem_append_right _ h)) (by decide +kernel))
set_option maxRecDepth 20000 in
theorem gX4_output_X4_requirePlace : GoodIn wsX4_output (va_wsS RX4 100 yX4_requirePlace wsX4_requirePlace) := goodIn_app (goodIn_of _ (by decide +kernel)) ggX4_output_X4_requirePlace
theorem dX4_output_0 : decode cX4_output 0 = .ok (.aload_n 0, 1) := by decide +kernel
theorem dX4_output_1 : decode cX4_output 1 = .ok (.getfield 21, 3) := by decide +kernel
theorem dX4_output_4 : decode cX4_output 4 = .ok (.iload_n 1, 1) := by decide +kernel
theorem dX4_output_5 : decode cX4_output 5 = .ok (.invokestatic 100, 3) := by decide +kernel
theorem dX4_output_8 : decode cX4_output 8 = .ok (.ireturn, 1) := by decide +kernel
theorem dX4_ratio_0 : decode cX4_ratio 0 = .ok (.aload_n 0, 1) := by decide +kernel
theorem dX4_ratio_1 : decode cX4_ratio 1 = .ok (.getfield 14, 3) := by decide +kernel
theorem dX4_ratio_4 : decode cX4_ratio 4 = .ok (.getfield 88, 3) := by decide +kernel
theorem dX4_ratio_7 : decode cX4_ratio 7 = .ok (.ifCond .gt 5, 3) := by decide +kernel
theorem dX4_ratio_10 : decode cX4_ratio 10 = .ok (.dconst 0, 1) := by decide +kernel
theorem dX4_ratio_11 : decode cX4_ratio 11 = .ok (.dreturn, 1) := by decide +kernel
theorem dX4_ratio_12 : decode cX4_ratio 12 = .ok (.aload_n 0, 1) := by decide +kernel
theorem dX4_ratio_13 : decode cX4_ratio 13 = .ok (.getfield 18, 3) := by decide +kernel
theorem dX4_ratio_16 : decode cX4_ratio 16 = .ok (.getfield 88, 3) := by decide +kernel
theorem dX4_ratio_19 : decode cX4_ratio 19 = .ok (.i2d, 1) := by decide +kernel
theorem dX4_ratio_20 : decode cX4_ratio 20 = .ok (.aload_n 0, 1) := by decide +kernel
theorem dX4_ratio_21 : decode cX4_ratio 21 = .ok (.getfield 14, 3) := by decide +kernel
theorem dX4_ratio_24 : decode cX4_ratio 24 = .ok (.getfield 88, 3) := by decide +kernel
theorem dX4_ratio_27 : decode cX4_ratio 27 = .ok (.i2d, 1) := by decide +kernel
theorem dX4_ratio_28 : decode cX4_ratio 28 = .ok (.ddiv, 1) := by decide +kernel
theorem dX4_ratio_29 : decode cX4_ratio 29 = .ok (.dreturn, 1) := by decide +kernel
set_option maxRecDepth 20000 in
theorem ggX4_digest_X4_digestModels : GoodIn wsX4_digest wsX4_digestModels := goodIn_r _ [14, 3, 4, 15, 16, 17, 18, 19, 20, 21, 37, 38, 39, 40, 41, 42, 43, 44, 45, 46, 47, 48, 49, 50, 51, 52, 53, 54, 55, 56, 57, 58] (by decide +kernel) (by decide +kernel)
set_option maxRecDepth 20000 in
theorem gX4_digest_X4_digestModels : GoodIn wsX4_digest (wsV RX4 195 RX4 yX4_digestModels wsX4_digestModels) := goodIn_app (goodIn_of _ (by decide +kernel)) ggX4_digest_X4_digestModels
set_option maxRecDepth 20000 in
theorem ggX4_digest_X4_digestBytes : GoodIn wsX4_digest wsX4_digestBytes := goodIn_r _ [24, 3, 25, 26, 27, 28, 29, 30, 31, 32, 33, 34, 35, 36, 59, 60] (by decide +kernel) (by decide +kernel)
set_option maxRecDepth 20000 in
theorem gX4_digest_X4_digestBytes : GoodIn wsX4_digest (va_wsS RX4 199 yX4_digestBytes wsX4_digestBytes) := goodIn_app (goodIn_of _ (by decide +kernel)) ggX4_digest_X4_digestBytes
theorem dX4_digest_0 : decode cX4_digest 0 = .ok (.aload_n 0, 1) := by decide +kernel
theorem dX4_digest_1 : decode cX4_digest 1 = .ok (.ldc2_w 193, 3) := by decide +kernel
theorem dX4_digest_4 : decode cX4_digest 4 = .ok (.invokevirtual 195, 3) := by decide +kernel
theorem dX4_digest_7 : decode cX4_digest 7 = .ok (.lstore_n 1, 1) := by decide +kernel
theorem dX4_digest_8 : decode cX4_digest 8 = .ok (.lload_n 1, 1) := by decide +kernel
theorem dX4_digest_9 : decode cX4_digest 9 = .ok (.aload_n 0, 1) := by decide +kernel
theorem dX4_digest_10 : decode cX4_digest 10 = .ok (.getfield 14, 3) := by decide +kernel
theorem dX4_digest_13 : decode cX4_digest 13 = .ok (.invokestatic 199, 3) := by decide +kernel
theorem dX4_digest_16 : decode cX4_digest 16 = .ok (.lstore_n 1, 1) := by decide +kernel
theorem dX4_digest_17 : decode cX4_digest 17 = .ok (.lload_n 1, 1) := by decide +kernel
theorem dX4_digest_18 : decode cX4_digest 18 = .ok (.ldc2_w 203, 3) := by decide +kernel
theorem dX4_digest_21 : decode cX4_digest 21 = .ok (.lmul, 1) := by decide +kernel
theorem dX4_digest_22 : decode cX4_digest 22 = .ok (.aload_n 0, 1) := by decide +kernel
theorem dX4_digest_23 : decode cX4_digest 23 = .ok (.getfield 27, 3) := by decide +kernel
theorem dX4_digest_26 : decode cX4_digest 26 = .ok (.getfield 152, 3) := by decide +kernel
theorem dX4_digest_29 : decode cX4_digest 29 = .ok (.i2l, 1) := by decide +kernel
theorem dX4_digest_30 : decode cX4_digest 30 = .ok (.ladd, 1) := by decide +kernel
theorem dX4_digest_31 : decode cX4_digest 31 = .ok (.lstore_n 1, 1) := by decide +kernel
theorem dX4_digest_32 : decode cX4_digest 32 = .ok (.lload_n 1, 1) := by decide +kernel
theorem dX4_digest_33 : decode cX4_digest 33 = .ok (.ldc2_w 203, 3) := by decide +kernel
theorem dX4_digest_36 : decode cX4_digest 36 = .ok (.lmul, 1) := by decide +kernel
theorem dX4_digest_37 : decode cX4_digest 37 = .ok (.aload_n 0, 1) := by decide +kernel
theorem dX4_digest_38 : decode cX4_digest 38 = .ok (.getfield 27, 3) := by decide +kernel
theorem dX4_digest_41 : decode cX4_digest 41 = .ok (.getfield 103, 3) := by decide +kernel
theorem dX4_digest_44 : decode cX4_digest 44 = .ok (.i2l, 1) := by decide +kernel
theorem dX4_digest_45 : decode cX4_digest 45 = .ok (.ladd, 1) := by decide +kernel
theorem dX4_digest_46 : decode cX4_digest 46 = .ok (.lstore_n 1, 1) := by decide +kernel
theorem dX4_digest_47 : decode cX4_digest 47 = .ok (.lload_n 1, 1) := by decide +kernel
theorem dX4_digest_48 : decode cX4_digest 48 = .ok (.ldc2_w 203, 3) := by decide +kernel
theorem dX4_digest_51 : decode cX4_digest 51 = .ok (.lmul, 1) := by decide +kernel
theorem dX4_digest_52 : decode cX4_digest 52 = .ok (.aload_n 0, 1) := by decide +kernel
theorem dX4_digest_53 : decode cX4_digest 53 = .ok (.getfield 27, 3) := by decide +kernel
theorem dX4_digest_56 : decode cX4_digest 56 = .ok (.getfield 155, 3) := by decide +kernel
theorem dX4_digest_59 : decode cX4_digest 59 = .ok (.ladd, 1) := by decide +kernel
theorem dX4_digest_60 : decode cX4_digest 60 = .ok (.lstore_n 1, 1) := by decide +kernel
theorem dX4_digest_61 : decode cX4_digest 61 = .ok (.lload_n 1, 1) := by decide +kernel
theorem dX4_digest_62 : decode cX4_digest 62 = .ok (.aload_n 0, 1) := by decide +kernel
theorem dX4_digest_63 : decode cX4_digest 63 = .ok (.getfield 18, 3) := by decide +kernel
theorem dX4_digest_66 : decode cX4_digest 66 = .ok (.invokestatic 199, 3) := by decide +kernel
theorem dX4_digest_69 : decode cX4_digest 69 = .ok (.lstore_n 1, 1) := by decide +kernel
theorem dX4_digest_70 : decode cX4_digest 70 = .ok (.lload_n 1, 1) := by decide +kernel
theorem dX4_digest_71 : decode cX4_digest 71 = .ok (.aload_n 0, 1) := by decide +kernel
theorem dX4_digest_72 : decode cX4_digest 72 = .ok (.getfield 21, 3) := by decide +kernel
theorem dX4_digest_75 : decode cX4_digest 75 = .ok (.invokestatic 199, 3) := by decide +kernel
theorem dX4_digest_78 : decode cX4_digest 78 = .ok (.lreturn, 1) := by decide +kernel
theorem dX4_requireModel_0 : decode cX4_requireModel 0 = .ok (.iload_n 1, 1) := by decide +kernel
theorem dX4_requireModel_1 : decode cX4_requireModel 1 = .ok (.ifCond .lt 14, 3) := by decide +kernel
theorem dX4_requireModel_4 : decode cX4_requireModel 4 = .ok (.iload_n 1, 1) := by decide +kernel
theorem dX4_requireModel_5 : decode cX4_requireModel 5 = .ok (.aload_n 0, 1) := by decide +kernel
theorem dX4_requireModel_6 : decode cX4_requireModel 6 = .ok (.getfield 27, 3) := by decide +kernel
theorem dX4_requireModel_9 : decode cX4_requireModel 9 = .ok (.getfield 50, 3) := by decide +kernel
theorem dX4_requireModel_12 : decode cX4_requireModel 12 = .ok (.if_icmp .lt 13, 3) := by decide +kernel
theorem dX4_requireModel_15 : decode cX4_requireModel 15 = .ok (.new 127, 3) := by decide +kernel
theorem dX4_requireModel_18 : decode cX4_requireModel 18 = .ok (.dup, 1) := by decide +kernel
theorem dX4_requireModel_19 : decode cX4_requireModel 19 = .ok (.ldc 205, 2) := by decide +kernel
theorem dX4_requireModel_21 : decode cX4_requireModel 21 = .ok (.invokespecial 131, 3) := by decide +kernel
theorem dX4_requireModel_24 : decode cX4_requireModel 24 = .ok (.athrow, 1) := by decide +kernel
theorem dX4_requireModel_25 : decode cX4_requireModel 25 = .ok (.aload_n 0, 1) := by decide +kernel
theorem dX4_requireModel_26 : decode cX4_requireModel 26 = .ok (.getfield 27, 3) := by decide +kernel
theorem dX4_requireModel_29 : decode cX4_requireModel 29 = .ok (.getfield 207, 3) := by decide +kernel
theorem dX4_requireModel_32 : decode cX4_requireModel 32 = .ok (.iload_n 1, 1) := by decide +kernel
theorem dX4_requireModel_33 : decode cX4_requireModel 33 = .ok (.aaload, 1) := by decide +kernel
theorem dX4_requireModel_34 : decode cX4_requireModel 34 = .ok (.areturn, 1) := by decide +kernel
theorem dX4_requireRate_0 : decode cX4_requireRate 0 = .ok (.iload_n 0, 1) := by decide +kernel
theorem dX4_requireRate_1 : decode cX4_requireRate 1 = .ok (.iconst 2, 1) := by decide +kernel
theorem dX4_requireRate_2 : decode cX4_requireRate 2 = .ok (.if_icmp .lt 9, 3) := by decide +kernel
theorem dX4_requireRate_5 : decode cX4_requireRate 5 = .ok (.iload_n 0, 1) := by decide +kernel
theorem dX4_requireRate_6 : decode cX4_requireRate 6 = .ok (.bipush 7, 2) := by decide +kernel
theorem dX4_requireRate_8 : decode cX4_requireRate 8 = .ok (.if_icmp .le 13, 3) := by decide +kernel
theorem dX4_requireRate_11 : decode cX4_requireRate 11 = .ok (.new 38, 3) := by decide +kernel
theorem dX4_requireRate_14 : decode cX4_requireRate 14 = .ok (.dup, 1) := by decide +kernel
theorem dX4_requireRate_15 : decode cX4_requireRate 15 = .ok (.ldc 211, 2) := by decide +kernel
theorem dX4_requireRate_17 : decode cX4_requireRate 17 = .ok (.invokespecial 42, 3) := by decide +kernel
theorem dX4_requireRate_20 : decode cX4_requireRate 20 = .ok (.athrow, 1) := by decide +kernel
theorem dX4_requireRate_21 : decode cX4_requireRate 21 = .ok (.return_, 1) := by decide +kernel
theorem dX4_requireByte_0 : decode cX4_requireByte 0 = .ok (.iload_n 0, 1) := by decide +kernel
theorem dX4_requireByte_1 : decode cX4_requireByte 1 = .ok (.ifCond .lt 10, 3) := by decide +kernel
theorem dX4_requireByte_4 : decode cX4_requireByte 4 = .ok (.iload_n 0, 1) := by decide +kernel
theorem dX4_requireByte_5 : decode cX4_requireByte 5 = .ok (.sipush 256, 3) := by decide +kernel
theorem dX4_requireByte_8 : decode cX4_requireByte 8 = .ok (.if_icmp .lt 13, 3) := by decide +kernel
theorem dX4_requireByte_11 : decode cX4_requireByte 11 = .ok (.new 38, 3) := by decide +kernel
theorem dX4_requireByte_14 : decode cX4_requireByte 14 = .ok (.dup, 1) := by decide +kernel
theorem dX4_requireByte_15 : decode cX4_requireByte 15 = .ok (.ldc 213, 2) := by decide +kernel
theorem dX4_requireByte_17 : decode cX4_requireByte 17 = .ok (.invokespecial 42, 3) := by decide +kernel
theorem dX4_requireByte_20 : decode cX4_requireByte 20 = .ok (.athrow, 1) := by decide +kernel
theorem dX4_requireByte_21 : decode cX4_requireByte 21 = .ok (.return_, 1) := by decide +kernel
theorem dX4_requireRoom_0 : decode cX4_requireRoom 0 = .ok (.iload_n 1, 1) := by decide +kernel
theorem dX4_requireRoom_1 : decode cX4_requireRoom 1 = .ok (.bipush 80, 2) := by decide +kernel
theorem dX4_requireRoom_3 : decode cX4_requireRoom 3 = .ok (.aload_n 0, 1) := by decide +kernel
theorem dX4_requireRoom_4 : decode cX4_requireRoom 4 = .ok (.getfield 14, 3) := by decide +kernel
theorem dX4_requireRoom_7 : decode cX4_requireRoom 7 = .ok (.getfield 88, 3) := by decide +kernel
theorem dX4_requireRoom_10 : decode cX4_requireRoom 10 = .ok (.isub, 1) := by decide +kernel
theorem dX4_requireRoom_11 : decode cX4_requireRoom 11 = .ok (.if_icmp .le 13, 3) := by decide +kernel
theorem dX4_requireRoom_14 : decode cX4_requireRoom 14 = .ok (.new 54, 3) := by decide +kernel
theorem dX4_requireRoom_17 : decode cX4_requireRoom 17 = .ok (.dup, 1) := by decide +kernel
theorem dX4_requireRoom_18 : decode cX4_requireRoom 18 = .ok (.ldc 215, 2) := by decide +kernel
theorem dX4_requireRoom_20 : decode cX4_requireRoom 20 = .ok (.invokespecial 58, 3) := by decide +kernel
theorem dX4_requireRoom_23 : decode cX4_requireRoom 23 = .ok (.athrow, 1) := by decide +kernel
theorem dX4_requireRoom_24 : decode cX4_requireRoom 24 = .ok (.return_, 1) := by decide +kernel
set_option maxRecDepth 20000 in
theorem ggX4_requirePlace_X0_has : GoodIn wsX4_requirePlace wsX0_has := goodIn_r _ [7, 8, 9, 15, 16] (by decide +kernel) (by decide +kernel)
set_option maxRecDepth 20000 in
theorem gX4_requirePlace_X0_has : GoodIn wsX4_requirePlace (wsV RX4 217 RX0 yX0_has wsX0_has) := goodIn_app (goodIn_of _ (by decide +kernel)) ggX4_requirePlace_X0_has
set_option maxRecDepth 20000 in
theorem ggX4_requirePlace_X0_at : GoodIn wsX4_requirePlace wsX0_at := goodIn_r _ [13, 9, 14, 4, 5, 6, 7, 8, 15, 16] (by decide +kernel) (by decide +kernel)
set_option maxRecDepth 20000 in
theorem gX4_requirePlace_X0_at : GoodIn wsX4_requirePlace (wsV RX4 167 RX0 yX0_at wsX0_at) := goodIn_app (goodIn_of _ (by decide +kernel)) ggX4_requirePlace_X0_at
theorem dX4_requirePlace_0 : decode cX4_requirePlace 0 = .ok (.aload_n 0, 1) := by decide +kernel
theorem dX4_requirePlace_1 : decode cX4_requirePlace 1 = .ok (.iload_n 1, 1) := by decide +kernel
theorem dX4_requirePlace_2 : decode cX4_requirePlace 2 = .ok (.invokevirtual 217, 3) := by decide +kernel
theorem dX4_requirePlace_5 : decode cX4_requirePlace 5 = .ok (.ifCond .ne 13, 3) := by decide +kernel
theorem dX4_requirePlace_8 : decode cX4_requirePlace 8 = .ok (.new 127, 3) := by decide +kernel
theorem dX4_requirePlace_11 : decode cX4_requirePlace 11 = .ok (.dup, 1) := by decide +kernel
theorem dX4_requirePlace_12 : decode cX4_requirePlace 12 = .ok (.ldc 221, 2) := by decide +kernel
theorem dX4_requirePlace_14 : decode cX4_requirePlace 14 = .ok (.invokespecial 131, 3) := by decide +kernel
theorem dX4_requirePlace_17 : decode cX4_requirePlace 17 = .ok (.athrow, 1) := by decide +kernel
theorem dX4_requirePlace_18 : decode cX4_requirePlace 18 = .ok (.aload_n 0, 1) := by decide +kernel
theorem dX4_requirePlace_19 : decode cX4_requirePlace 19 = .ok (.iload_n 1, 1) := by decide +kernel
theorem dX4_requirePlace_20 : decode cX4_requirePlace 20 = .ok (.invokevirtual 167, 3) := by decide +kernel
theorem dX4_requirePlace_23 : decode cX4_requirePlace 23 = .ok (.ireturn, 1) := by decide +kernel
theorem dX4_shorten_0 : decode cX4_shorten 0 = .ok (.iload_n 1, 1) := by decide +kernel
theorem dX4_shorten_1 : decode cX4_shorten 1 = .ok (.ifCond .lt 11, 3) := by decide +kernel
theorem dX4_shorten_4 : decode cX4_shorten 4 = .ok (.iload_n 1, 1) := by decide +kernel
theorem dX4_shorten_5 : decode cX4_shorten 5 = .ok (.aload_n 0, 1) := by decide +kernel
theorem dX4_shorten_6 : decode cX4_shorten 6 = .ok (.getfield 88, 3) := by decide +kernel
theorem dX4_shorten_9 : decode cX4_shorten 9 = .ok (.if_icmp .le 13, 3) := by decide +kernel
theorem dX4_shorten_12 : decode cX4_shorten 12 = .ok (.new 38, 3) := by decide +kernel
theorem dX4_shorten_15 : decode cX4_shorten 15 = .ok (.dup, 1) := by decide +kernel
theorem dX4_shorten_16 : decode cX4_shorten 16 = .ok (.ldc 223, 2) := by decide +kernel
theorem dX4_shorten_18 : decode cX4_shorten 18 = .ok (.invokespecial 42, 3) := by decide +kernel
theorem dX4_shorten_21 : decode cX4_shorten 21 = .ok (.athrow, 1) := by decide +kernel
theorem dX4_shorten_22 : decode cX4_shorten 22 = .ok (.aload_n 0, 1) := by decide +kernel
theorem dX4_shorten_23 : decode cX4_shorten 23 = .ok (.dup, 1) := by decide +kernel
theorem dX4_shorten_24 : decode cX4_shorten 24 = .ok (.getfield 88, 3) := by decide +kernel
theorem dX4_shorten_27 : decode cX4_shorten 27 = .ok (.iload_n 1, 1) := by decide +kernel
theorem dX4_shorten_28 : decode cX4_shorten 28 = .ok (.isub, 1) := by decide +kernel
theorem dX4_shorten_29 : decode cX4_shorten 29 = .ok (.putfield 88, 3) := by decide +kernel
theorem dX4_shorten_32 : decode cX4_shorten 32 = .ok (.aload_n 0, 1) := by decide +kernel
theorem dX4_shorten_33 : decode cX4_shorten 33 = .ok (.getfield 88, 3) := by decide +kernel
theorem dX4_shorten_36 : decode cX4_shorten 36 = .ok (.ireturn, 1) := by decide +kernel
theorem dX4_quality_0 : decode cX4_quality 0 = .ok (.iload_n 1, 1) := by decide +kernel
theorem dX4_quality_1 : decode cX4_quality 1 = .ok (.ifCond .eq 7, 3) := by decide +kernel
theorem dX4_quality_4 : decode cX4_quality 4 = .ok (.iload_n 0, 1) := by decide +kernel
theorem dX4_quality_5 : decode cX4_quality 5 = .ok (.goto 8, 3) := by decide +kernel
theorem dX4_quality_8 : decode cX4_quality 8 = .ok (.sipush 4096, 3) := by decide +kernel
theorem dX4_quality_11 : decode cX4_quality 11 = .ok (.iload_n 0, 1) := by decide +kernel
theorem dX4_quality_12 : decode cX4_quality 12 = .ok (.isub, 1) := by decide +kernel
theorem dX4_quality_13 : decode cX4_quality 13 = .ok (.ireturn, 1) := by decide +kernel
set_option maxRecDepth 20000 in
theorem ggX4_encodeByte_X3_mixture : GoodIn wsX4_encodeByte wsX3_mixture := goodIn_r _ [8, 9, 10, 11, 12, 13, 14, 15, 16, 17, 18, 19, 20, 21, 22, 23, 24, 25, 26, 120, 121, 122, 123, 124, 125, 126, 127, 128, 129, 130, 131, 132, 133, 134, 135, 136] (by decide +kernel) (by decide +kernel)
set_option maxRecDepth 20000 in
theorem gX4_encodeByte_X3_mixture : GoodIn wsX4_encodeByte (wsV RX4 106 RX3 yX3_mixture wsX3_mixture) := goodIn_app (goodIn_of _ (by decide +kernel)) ggX4_encodeByte_X3_mixture
set_option maxRecDepth 20000 in
theorem ggX4_encodeByte_X1_middle : GoodIn wsX4_encodeByte wsX1_middle := goodIn_r _ [31, 32, 33, 34, 137, 138, 139, 140] (by decide +kernel) (by decide +kernel)
set_option maxRecDepth 20000 in
theorem gX4_encodeByte_X1_middle : GoodIn wsX4_encodeByte (wsV RX4 225 RX1 yX1_middle wsX1_middle) := goodIn_app (goodIn_of _ (by decide +kernel)) ggX4_encodeByte_X1_middle
set_option maxRecDepth 20000 in
theorem ggX4_encodeByte_X1_narrow : GoodIn wsX4_encodeByte wsX1_narrow := goodIn_r _ [38, 33, 32, 137, 138, 139, 140] (by decide +kernel) (by decide +kernel)
set_option maxRecDepth 20000 in
theorem gX4_encodeByte_X1_narrow : GoodIn wsX4_encodeByte (wsV RX4 229 RX1 yX1_narrow wsX1_narrow) := goodIn_app (goodIn_of _ (by decide +kernel)) ggX4_encodeByte_X1_narrow
set_option maxRecDepth 20000 in
theorem ggX4_encodeByte_X1_isSettled : GoodIn wsX4_encodeByte wsX1_isSettled := goodIn_r _ [42, 32, 33, 43, 44, 30, 45, 137, 138, 139, 140] (by decide +kernel) (by decide +kernel)
set_option maxRecDepth 20000 in
theorem gX4_encodeByte_X1_isSettled : GoodIn wsX4_encodeByte (wsV RX4 233 RX1 yX1_isSettled wsX1_isSettled) := goodIn_app (goodIn_of _ (by decide +kernel)) ggX4_encodeByte_X1_isSettled
set_option maxRecDepth 20000 in
theorem ggX4_encodeByte_X1_shift : GoodIn wsX4_encodeByte wsX1_shift := goodIn_r _ [49, 32, 50, 33, 51, 43, 44, 30, 45, 137, 138, 139, 140] (by decide +kernel) (by decide +kernel)
set_option maxRecDepth 20000 in
theorem gX4_encodeByte_X1_shift : GoodIn wsX4_encodeByte (wsV RX4 174 RX1 yX1_shift wsX1_shift) := goodIn_app (goodIn_of _ (by decide +kernel)) ggX4_encodeByte_X1_shift
set_option maxRecDepth 20000 in
theorem ggX4_encodeByte_X0_append : GoodIn wsX4_encodeByte wsX0_append := goodIn_r _ [56, 57, 58, 141, 142] (by decide +kernel) (by decide +kernel)
set_option maxRecDepth 20000 in
theorem gX4_encodeByte_X0_append : GoodIn wsX4_encodeByte (wsV RX4 85 RX0 yX0_append wsX0_append) := goodIn_app (goodIn_of _ (by decide +kernel)) ggX4_encodeByte_X0_append
set_option maxRecDepth 20000 in
theorem ggX4_encodeByte_X3_learn : GoodIn wsX4_encodeByte wsX3_learn := goodIn_r _ [62, 63, 9, 10, 12, 64, 65, 66, 67, 68, 69, 70, 23, 71, 72, 73, 74, 14, 15, 16, 75, 18, 19, 76, 21, 22, 24, 25, 26, 77, 78, 79, 80, 81, 82, 83, 84, 85, 86, 87, 7, 88, 89, 90, 91, 92, 93, 94, 95, 96, 97, 98, 99, 100, 101, 102, 103, 104, 105, 106, 107, 108, 109, 110, 111, 112, 113, 114, 120, 121, 122, 123, 124, 125, 126, 127, 128, 129, 130, 131, 132, 133, 134, 135, 136] (by decide +kernel) (by decide +kernel)
set_option maxRecDepth 20000 in
theorem gX4_encodeByte_X3_learn : GoodIn wsX4_encodeByte (wsV RX4 110 RX3 yX3_learn wsX3_learn) := goodIn_app (goodIn_of _ (by decide +kernel)) ggX4_encodeByte_X3_learn
theorem dX4_encodeByte_0 : decode cX4_encodeByte 0 = .ok (.bipush 7, 2) := by decide +kernel
theorem dX4_encodeByte_2 : decode cX4_encodeByte 2 = .ok (.istore_n 2, 1) := by decide +kernel
theorem dX4_encodeByte_3 : decode cX4_encodeByte 3 = .ok (.iload_n 2, 1) := by decide +kernel
theorem dX4_encodeByte_4 : decode cX4_encodeByte 4 = .ok (.ifCond .lt 99, 3) := by decide +kernel
theorem dX4_encodeByte_7 : decode cX4_encodeByte 7 = .ok (.iload_n 1, 1) := by decide +kernel
theorem dX4_encodeByte_8 : decode cX4_encodeByte 8 = .ok (.iload_n 2, 1) := by decide +kernel
theorem dX4_encodeByte_9 : decode cX4_encodeByte 9 = .ok (.iushr, 1) := by decide +kernel
theorem dX4_encodeByte_10 : decode cX4_encodeByte 10 = .ok (.iconst 1, 1) := by decide +kernel
theorem dX4_encodeByte_11 : decode cX4_encodeByte 11 = .ok (.iand, 1) := by decide +kernel
theorem dX4_encodeByte_12 : decode cX4_encodeByte 12 = .ok (.iconst 1, 1) := by decide +kernel
theorem dX4_encodeByte_13 : decode cX4_encodeByte 13 = .ok (.if_icmp .ne 7, 3) := by decide +kernel
theorem dX4_encodeByte_16 : decode cX4_encodeByte 16 = .ok (.iconst 1, 1) := by decide +kernel
theorem dX4_encodeByte_17 : decode cX4_encodeByte 17 = .ok (.goto 4, 3) := by decide +kernel
theorem dX4_encodeByte_20 : decode cX4_encodeByte 20 = .ok (.iconst 0, 1) := by decide +kernel
theorem dX4_encodeByte_21 : decode cX4_encodeByte 21 = .ok (.istore_n 3, 1) := by decide +kernel
theorem dX4_encodeByte_22 : decode cX4_encodeByte 22 = .ok (.aload_n 0, 1) := by decide +kernel
theorem dX4_encodeByte_23 : decode cX4_encodeByte 23 = .ok (.getfield 27, 3) := by decide +kernel
theorem dX4_encodeByte_26 : decode cX4_encodeByte 26 = .ok (.invokevirtual 106, 3) := by decide +kernel
theorem dX4_encodeByte_29 : decode cX4_encodeByte 29 = .ok (.istore 4, 2) := by decide +kernel
theorem dX4_encodeByte_31 : decode cX4_encodeByte 31 = .ok (.aload_n 0, 1) := by decide +kernel
theorem dX4_encodeByte_32 : decode cX4_encodeByte 32 = .ok (.getfield 34, 3) := by decide +kernel
theorem dX4_encodeByte_35 : decode cX4_encodeByte 35 = .ok (.iload_n 3, 1) := by decide +kernel
theorem dX4_encodeByte_36 : decode cX4_encodeByte 36 = .ok (.aload_n 0, 1) := by decide +kernel
theorem dX4_encodeByte_37 : decode cX4_encodeByte 37 = .ok (.getfield 34, 3) := by decide +kernel
theorem dX4_encodeByte_40 : decode cX4_encodeByte 40 = .ok (.iload 4, 2) := by decide +kernel
theorem dX4_encodeByte_42 : decode cX4_encodeByte 42 = .ok (.invokevirtual 225, 3) := by decide +kernel
theorem dX4_encodeByte_45 : decode cX4_encodeByte 45 = .ok (.invokevirtual 229, 3) := by decide +kernel
theorem dX4_encodeByte_48 : decode cX4_encodeByte 48 = .ok (.iconst 0, 1) := by decide +kernel
theorem dX4_encodeByte_49 : decode cX4_encodeByte 49 = .ok (.istore 5, 2) := by decide +kernel
theorem dX4_encodeByte_51 : decode cX4_encodeByte 51 = .ok (.iload 5, 2) := by decide +kernel
theorem dX4_encodeByte_53 : decode cX4_encodeByte 53 = .ok (.iconst 4, 1) := by decide +kernel
theorem dX4_encodeByte_54 : decode cX4_encodeByte 54 = .ok (.if_icmp .ge 33, 3) := by decide +kernel
theorem dX4_encodeByte_57 : decode cX4_encodeByte 57 = .ok (.aload_n 0, 1) := by decide +kernel
theorem dX4_encodeByte_58 : decode cX4_encodeByte 58 = .ok (.getfield 34, 3) := by decide +kernel
theorem dX4_encodeByte_61 : decode cX4_encodeByte 61 = .ok (.invokevirtual 233, 3) := by decide +kernel
theorem dX4_encodeByte_64 : decode cX4_encodeByte 64 = .ok (.ifCond .eq 23, 3) := by decide +kernel
theorem dX4_encodeByte_67 : decode cX4_encodeByte 67 = .ok (.aload_n 0, 1) := by decide +kernel
theorem dX4_encodeByte_68 : decode cX4_encodeByte 68 = .ok (.getfield 18, 3) := by decide +kernel
theorem dX4_encodeByte_71 : decode cX4_encodeByte 71 = .ok (.aload_n 0, 1) := by decide +kernel
theorem dX4_encodeByte_72 : decode cX4_encodeByte 72 = .ok (.getfield 34, 3) := by decide +kernel
theorem dX4_encodeByte_75 : decode cX4_encodeByte 75 = .ok (.invokevirtual 174, 3) := by decide +kernel
theorem dX4_encodeByte_78 : decode cX4_encodeByte 78 = .ok (.invokevirtual 85, 3) := by decide +kernel
theorem dX4_encodeByte_81 : decode cX4_encodeByte 81 = .ok (.iinc 5 1, 3) := by decide +kernel
theorem dX4_encodeByte_84 : decode cX4_encodeByte 84 = .ok (.goto (-33), 3) := by decide +kernel
theorem dX4_encodeByte_87 : decode cX4_encodeByte 87 = .ok (.aload_n 0, 1) := by decide +kernel
theorem dX4_encodeByte_88 : decode cX4_encodeByte 88 = .ok (.getfield 27, 3) := by decide +kernel
theorem dX4_encodeByte_91 : decode cX4_encodeByte 91 = .ok (.iload_n 3, 1) := by decide +kernel
theorem dX4_encodeByte_92 : decode cX4_encodeByte 92 = .ok (.iload 4, 2) := by decide +kernel
theorem dX4_encodeByte_94 : decode cX4_encodeByte 94 = .ok (.invokevirtual 110, 3) := by decide +kernel
theorem dX4_encodeByte_97 : decode cX4_encodeByte 97 = .ok (.iinc 2 (-1), 3) := by decide +kernel
theorem dX4_encodeByte_100 : decode cX4_encodeByte 100 = .ok (.goto (-97), 3) := by decide +kernel
theorem dX4_encodeByte_103 : decode cX4_encodeByte 103 = .ok (.return_, 1) := by decide +kernel
set_option maxRecDepth 20000 in
theorem ggX4_decodeByte_X3_mixture : GoodIn wsX4_decodeByte wsX3_mixture := goodIn_r _ [9, 10, 11, 12, 13, 14, 15, 16, 17, 18, 19, 20, 21, 22, 23, 24, 25, 26, 27, 135, 136, 137, 138, 139, 140, 141, 142, 143, 144, 145, 146, 147, 148, 149, 150, 151] (by decide +kernel) (by decide +kernel)
set_option maxRecDepth 20000 in
theorem gX4_decodeByte_X3_mixture : GoodIn wsX4_decodeByte (wsV RX4 106 RX3 yX3_mixture wsX3_mixture) := goodIn_app (goodIn_of _ (by decide +kernel)) ggX4_decodeByte_X3_mixture
set_option maxRecDepth 20000 in
theorem ggX4_decodeByte_X1_middle : GoodIn wsX4_decodeByte wsX1_middle := goodIn_r _ [32, 33, 34, 35, 131, 132, 133, 134] (by decide +kernel) (by decide +kernel)
set_option maxRecDepth 20000 in
theorem gX4_decodeByte_X1_middle : GoodIn wsX4_decodeByte (wsV RX4 225 RX1 yX1_middle wsX1_middle) := goodIn_app (goodIn_of _ (by decide +kernel)) ggX4_decodeByte_X1_middle
set_option maxRecDepth 20000 in
theorem ggX4_decodeByte_X1_narrow : GoodIn wsX4_decodeByte wsX1_narrow := goodIn_r _ [39, 34, 33, 131, 132, 133, 134] (by decide +kernel) (by decide +kernel)
set_option maxRecDepth 20000 in
theorem gX4_decodeByte_X1_narrow : GoodIn wsX4_decodeByte (wsV RX4 229 RX1 yX1_narrow wsX1_narrow) := goodIn_app (goodIn_of _ (by decide +kernel)) ggX4_decodeByte_X1_narrow
set_option maxRecDepth 20000 in
theorem ggX4_decodeByte_X1_isSettled : GoodIn wsX4_decodeByte wsX1_isSettled := goodIn_r _ [43, 33, 34, 44, 45, 31, 46, 131, 132, 133, 134] (by decide +kernel) (by decide +kernel)
set_option maxRecDepth 20000 in
theorem gX4_decodeByte_X1_isSettled : GoodIn wsX4_decodeByte (wsV RX4 233 RX1 yX1_isSettled wsX1_isSettled) := goodIn_app (goodIn_of _ (by decide +kernel)) ggX4_decodeByte_X1_isSettled
set_option maxRecDepth 20000 in
theorem ggX4_decodeByte_X1_shift : GoodIn wsX4_decodeByte wsX1_shift := goodIn_r _ [50, 33, 51, 34, 52, 44, 45, 31, 46, 131, 132, 133, 134] (by decide +kernel) (by decide +kernel)
set_option maxRecDepth 20000 in
theorem gX4_decodeByte_X1_shift : GoodIn wsX4_decodeByte (wsV RX4 174 RX1 yX1_shift wsX1_shift) := goodIn_app (goodIn_of _ (by decide +kernel)) ggX4_decodeByte_X1_shift
set_option maxRecDepth 20000 in
theorem ggX4_decodeByte_X1_pull : GoodIn wsX4_decodeByte wsX1_pull := goodIn_r _ [56, 57, 51, 58, 59, 60, 61, 62, 63, 64, 65, 66, 67, 68, 69, 131, 132, 133, 134, 152, 153] (by decide +kernel) (by decide +kernel)
set_option maxRecDepth 20000 in
theorem gX4_decodeByte_X1_pull : GoodIn wsX4_decodeByte (wsV RX4 240 RX1 yX1_pull wsX1_pull) := goodIn_app (goodIn_of _ (by decide +kernel)) ggX4_decodeByte_X1_pull
set_option maxRecDepth 20000 in
theorem ggX4_decodeByte_X3_learn : GoodIn wsX4_decodeByte wsX3_learn := goodIn_r _ [73, 74, 10, 11, 13, 75, 76, 77, 78, 79, 80, 81, 24, 82, 83, 84, 85, 15, 16, 17, 86, 19, 20, 87, 22, 23, 25, 26, 27, 88, 89, 90, 91, 92, 93, 94, 95, 96, 97, 98, 8, 99, 100, 101, 102, 103, 104, 105, 106, 107, 108, 109, 110, 111, 112, 113, 114, 115, 116, 117, 118, 119, 120, 121, 122, 123, 124, 125, 135, 136, 137, 138, 139, 140, 141, 142, 143, 144, 145, 146, 147, 148, 149, 150, 151] (by decide +kernel) (by decide +kernel)
set_option maxRecDepth 20000 in
theorem gX4_decodeByte_X3_learn : GoodIn wsX4_decodeByte (wsV RX4 110 RX3 yX3_learn wsX3_learn) := goodIn_app (goodIn_of _ (by decide +kernel)) ggX4_decodeByte_X3_learn
theorem dX4_decodeByte_0 : decode cX4_decodeByte 0 = .ok (.iconst 0, 1) := by decide +kernel
theorem dX4_decodeByte_1 : decode cX4_decodeByte 1 = .ok (.istore_n 1, 1) := by decide +kernel
theorem dX4_decodeByte_2 : decode cX4_decodeByte 2 = .ok (.iconst 0, 1) := by decide +kernel
theorem dX4_decodeByte_3 : decode cX4_decodeByte 3 = .ok (.istore_n 2, 1) := by decide +kernel
theorem dX4_decodeByte_4 : decode cX4_decodeByte 4 = .ok (.iload_n 2, 1) := by decide +kernel
theorem dX4_decodeByte_5 : decode cX4_decodeByte 5 = .ok (.bipush 8, 2) := by decide +kernel
theorem dX4_decodeByte_7 : decode cX4_decodeByte 7 = .ok (.if_icmp .ge 127, 3) := by decide +kernel
theorem dX4_decodeByte_10 : decode cX4_decodeByte 10 = .ok (.aload_n 0, 1) := by decide +kernel
theorem dX4_decodeByte_11 : decode cX4_decodeByte 11 = .ok (.getfield 27, 3) := by decide +kernel
theorem dX4_decodeByte_14 : decode cX4_decodeByte 14 = .ok (.invokevirtual 106, 3) := by decide +kernel
theorem dX4_decodeByte_17 : decode cX4_decodeByte 17 = .ok (.istore_n 3, 1) := by decide +kernel
theorem dX4_decodeByte_18 : decode cX4_decodeByte 18 = .ok (.aload_n 0, 1) := by decide +kernel
theorem dX4_decodeByte_19 : decode cX4_decodeByte 19 = .ok (.getfield 34, 3) := by decide +kernel
theorem dX4_decodeByte_22 : decode cX4_decodeByte 22 = .ok (.iload_n 3, 1) := by decide +kernel
theorem dX4_decodeByte_23 : decode cX4_decodeByte 23 = .ok (.invokevirtual 225, 3) := by decide +kernel
theorem dX4_decodeByte_26 : decode cX4_decodeByte 26 = .ok (.lstore 4, 2) := by decide +kernel
theorem dX4_decodeByte_28 : decode cX4_decodeByte 28 = .ok (.aload_n 0, 1) := by decide +kernel
theorem dX4_decodeByte_29 : decode cX4_decodeByte 29 = .ok (.getfield 34, 3) := by decide +kernel
theorem dX4_decodeByte_32 : decode cX4_decodeByte 32 = .ok (.getfield 237, 3) := by decide +kernel
theorem dX4_decodeByte_35 : decode cX4_decodeByte 35 = .ok (.lload 4, 2) := by decide +kernel
theorem dX4_decodeByte_37 : decode cX4_decodeByte 37 = .ok (.lcmp, 1) := by decide +kernel
theorem dX4_decodeByte_38 : decode cX4_decodeByte 38 = .ok (.ifCond .gt 7, 3) := by decide +kernel
theorem dX4_decodeByte_41 : decode cX4_decodeByte 41 = .ok (.iconst 1, 1) := by decide +kernel
theorem dX4_decodeByte_42 : decode cX4_decodeByte 42 = .ok (.goto 4, 3) := by decide +kernel
theorem dX4_decodeByte_45 : decode cX4_decodeByte 45 = .ok (.iconst 0, 1) := by decide +kernel
theorem dX4_decodeByte_46 : decode cX4_decodeByte 46 = .ok (.istore 6, 2) := by decide +kernel
theorem dX4_decodeByte_48 : decode cX4_decodeByte 48 = .ok (.aload_n 0, 1) := by decide +kernel
theorem dX4_decodeByte_49 : decode cX4_decodeByte 49 = .ok (.getfield 34, 3) := by decide +kernel
theorem dX4_decodeByte_52 : decode cX4_decodeByte 52 = .ok (.iload 6, 2) := by decide +kernel
theorem dX4_decodeByte_54 : decode cX4_decodeByte 54 = .ok (.lload 4, 2) := by decide +kernel
theorem dX4_decodeByte_56 : decode cX4_decodeByte 56 = .ok (.invokevirtual 229, 3) := by decide +kernel
theorem dX4_decodeByte_59 : decode cX4_decodeByte 59 = .ok (.iconst 0, 1) := by decide +kernel
theorem dX4_decodeByte_60 : decode cX4_decodeByte 60 = .ok (.istore 7, 2) := by decide +kernel
theorem dX4_decodeByte_62 : decode cX4_decodeByte 62 = .ok (.iload 7, 2) := by decide +kernel
theorem dX4_decodeByte_64 : decode cX4_decodeByte 64 = .ok (.iconst 4, 1) := by decide +kernel
theorem dX4_decodeByte_65 : decode cX4_decodeByte 65 = .ok (.if_icmp .ge 38, 3) := by decide +kernel
theorem dX4_decodeByte_68 : decode cX4_decodeByte 68 = .ok (.aload_n 0, 1) := by decide +kernel
theorem dX4_decodeByte_69 : decode cX4_decodeByte 69 = .ok (.getfield 34, 3) := by decide +kernel
theorem dX4_decodeByte_72 : decode cX4_decodeByte 72 = .ok (.invokevirtual 233, 3) := by decide +kernel
theorem dX4_decodeByte_75 : decode cX4_decodeByte 75 = .ok (.ifCond .eq 28, 3) := by decide +kernel
theorem dX4_decodeByte_78 : decode cX4_decodeByte 78 = .ok (.aload_n 0, 1) := by decide +kernel
theorem dX4_decodeByte_79 : decode cX4_decodeByte 79 = .ok (.getfield 34, 3) := by decide +kernel
theorem dX4_decodeByte_82 : decode cX4_decodeByte 82 = .ok (.invokevirtual 174, 3) := by decide +kernel
theorem dX4_decodeByte_85 : decode cX4_decodeByte 85 = .ok (.pop, 1) := by decide +kernel
theorem dX4_decodeByte_86 : decode cX4_decodeByte 86 = .ok (.aload_n 0, 1) := by decide +kernel
theorem dX4_decodeByte_87 : decode cX4_decodeByte 87 = .ok (.getfield 34, 3) := by decide +kernel
theorem dX4_decodeByte_90 : decode cX4_decodeByte 90 = .ok (.aload_n 0, 1) := by decide +kernel
theorem dX4_decodeByte_91 : decode cX4_decodeByte 91 = .ok (.getfield 18, 3) := by decide +kernel
theorem dX4_decodeByte_94 : decode cX4_decodeByte 94 = .ok (.invokevirtual 240, 3) := by decide +kernel
theorem dX4_decodeByte_97 : decode cX4_decodeByte 97 = .ok (.iinc 7 1, 3) := by decide +kernel
theorem dX4_decodeByte_100 : decode cX4_decodeByte 100 = .ok (.goto (-38), 3) := by decide +kernel
theorem dX4_decodeByte_103 : decode cX4_decodeByte 103 = .ok (.aload_n 0, 1) := by decide +kernel
theorem dX4_decodeByte_104 : decode cX4_decodeByte 104 = .ok (.getfield 27, 3) := by decide +kernel
theorem dX4_decodeByte_107 : decode cX4_decodeByte 107 = .ok (.iload 6, 2) := by decide +kernel
theorem dX4_decodeByte_109 : decode cX4_decodeByte 109 = .ok (.iload_n 3, 1) := by decide +kernel
theorem dX4_decodeByte_110 : decode cX4_decodeByte 110 = .ok (.invokevirtual 110, 3) := by decide +kernel
theorem dX4_decodeByte_113 : decode cX4_decodeByte 113 = .ok (.iconst 2, 1) := by decide +kernel
theorem dX4_decodeByte_114 : decode cX4_decodeByte 114 = .ok (.iload_n 1, 1) := by decide +kernel
theorem dX4_decodeByte_115 : decode cX4_decodeByte 115 = .ok (.imul, 1) := by decide +kernel
theorem dX4_decodeByte_116 : decode cX4_decodeByte 116 = .ok (.iload 6, 2) := by decide +kernel
theorem dX4_decodeByte_118 : decode cX4_decodeByte 118 = .ok (.ifCond .eq 7, 3) := by decide +kernel
theorem dX4_decodeByte_121 : decode cX4_decodeByte 121 = .ok (.iconst 1, 1) := by decide +kernel
theorem dX4_decodeByte_122 : decode cX4_decodeByte 122 = .ok (.goto 4, 3) := by decide +kernel
theorem dX4_decodeByte_125 : decode cX4_decodeByte 125 = .ok (.iconst 0, 1) := by decide +kernel
theorem dX4_decodeByte_126 : decode cX4_decodeByte 126 = .ok (.iadd, 1) := by decide +kernel
theorem dX4_decodeByte_127 : decode cX4_decodeByte 127 = .ok (.istore_n 1, 1) := by decide +kernel
theorem dX4_decodeByte_128 : decode cX4_decodeByte 128 = .ok (.iinc 2 1, 3) := by decide +kernel
theorem dX4_decodeByte_131 : decode cX4_decodeByte 131 = .ok (.goto (-127), 3) := by decide +kernel
theorem dX4_decodeByte_134 : decode cX4_decodeByte 134 = .ok (.iload_n 1, 1) := by decide +kernel
theorem dX4_decodeByte_135 : decode cX4_decodeByte 135 = .ok (.ireturn, 1) := by decide +kernel
set_option maxRecDepth 20000 in
theorem ggX4_differences_X0_has : GoodIn wsX4_differences wsX0_has := goodIn_r _ [12, 13, 14, 25, 26] (by decide +kernel) (by decide +kernel)
set_option maxRecDepth 20000 in
theorem gX4_differences_X0_has : GoodIn wsX4_differences (wsV RX4 217 RX0 yX0_has wsX0_has) := goodIn_app (goodIn_of _ (by decide +kernel)) ggX4_differences_X0_has
set_option maxRecDepth 20000 in
theorem ggX4_differences_X0_at : GoodIn wsX4_differences wsX0_at := goodIn_r _ [18, 14, 19, 9, 10, 11, 12, 13, 25, 26] (by decide +kernel) (by decide +kernel)
set_option maxRecDepth 20000 in
theorem gX4_differences_X0_at : GoodIn wsX4_differences (wsV RX4 167 RX0 yX0_at wsX0_at) := goodIn_app (goodIn_of _ (by decide +kernel)) ggX4_differences_X0_at
theorem dX4_differences_0 : decode cX4_differences 0 = .ok (.aload_n 0, 1) := by decide +kernel
theorem dX4_differences_1 : decode cX4_differences 1 = .ok (.getfield 14, 3) := by decide +kernel
theorem dX4_differences_4 : decode cX4_differences 4 = .ok (.getfield 88, 3) := by decide +kernel
theorem dX4_differences_7 : decode cX4_differences 7 = .ok (.aload_n 0, 1) := by decide +kernel
theorem dX4_differences_8 : decode cX4_differences 8 = .ok (.getfield 21, 3) := by decide +kernel
theorem dX4_differences_11 : decode cX4_differences 11 = .ok (.getfield 88, 3) := by decide +kernel
theorem dX4_differences_14 : decode cX4_differences 14 = .ok (.invokestatic 243, 3) := by decide +kernel
theorem dX4_differences_17 : decode cX4_differences 17 = .ok (.istore_n 1, 1) := by decide +kernel
theorem dX4_differences_18 : decode cX4_differences 18 = .ok (.iconst 0, 1) := by decide +kernel
theorem dX4_differences_19 : decode cX4_differences 19 = .ok (.istore_n 2, 1) := by decide +kernel
theorem dX4_differences_20 : decode cX4_differences 20 = .ok (.iconst 0, 1) := by decide +kernel
theorem dX4_differences_21 : decode cX4_differences 21 = .ok (.istore_n 3, 1) := by decide +kernel
theorem dX4_differences_22 : decode cX4_differences 22 = .ok (.iload_n 3, 1) := by decide +kernel
theorem dX4_differences_23 : decode cX4_differences 23 = .ok (.iload_n 1, 1) := by decide +kernel
theorem dX4_differences_24 : decode cX4_differences 24 = .ok (.if_icmp .ge 65, 3) := by decide +kernel
theorem dX4_differences_27 : decode cX4_differences 27 = .ok (.aload_n 0, 1) := by decide +kernel
theorem dX4_differences_28 : decode cX4_differences 28 = .ok (.getfield 14, 3) := by decide +kernel
theorem dX4_differences_31 : decode cX4_differences 31 = .ok (.iload_n 3, 1) := by decide +kernel
theorem dX4_differences_32 : decode cX4_differences 32 = .ok (.invokevirtual 217, 3) := by decide +kernel
theorem dX4_differences_35 : decode cX4_differences 35 = .ok (.ifCond .eq 37, 3) := by decide +kernel
theorem dX4_differences_38 : decode cX4_differences 38 = .ok (.aload_n 0, 1) := by decide +kernel
theorem dX4_differences_39 : decode cX4_differences 39 = .ok (.getfield 21, 3) := by decide +kernel
theorem dX4_differences_42 : decode cX4_differences 42 = .ok (.iload_n 3, 1) := by decide +kernel
theorem dX4_differences_43 : decode cX4_differences 43 = .ok (.invokevirtual 217, 3) := by decide +kernel
theorem dX4_differences_46 : decode cX4_differences 46 = .ok (.ifCond .eq 26, 3) := by decide +kernel
theorem dX4_differences_49 : decode cX4_differences 49 = .ok (.aload_n 0, 1) := by decide +kernel
theorem dX4_differences_50 : decode cX4_differences 50 = .ok (.getfield 14, 3) := by decide +kernel
theorem dX4_differences_53 : decode cX4_differences 53 = .ok (.iload_n 3, 1) := by decide +kernel
theorem dX4_differences_54 : decode cX4_differences 54 = .ok (.invokevirtual 167, 3) := by decide +kernel
theorem dX4_differences_57 : decode cX4_differences 57 = .ok (.aload_n 0, 1) := by decide +kernel
theorem dX4_differences_58 : decode cX4_differences 58 = .ok (.getfield 21, 3) := by decide +kernel
theorem dX4_differences_61 : decode cX4_differences 61 = .ok (.iload_n 3, 1) := by decide +kernel
theorem dX4_differences_62 : decode cX4_differences 62 = .ok (.invokevirtual 167, 3) := by decide +kernel
theorem dX4_differences_65 : decode cX4_differences 65 = .ok (.if_icmp .ne 7, 3) := by decide +kernel
theorem dX4_differences_68 : decode cX4_differences 68 = .ok (.iconst 1, 1) := by decide +kernel
theorem dX4_differences_69 : decode cX4_differences 69 = .ok (.goto 4, 3) := by decide +kernel
theorem dX4_differences_72 : decode cX4_differences 72 = .ok (.iconst 0, 1) := by decide +kernel
theorem dX4_differences_73 : decode cX4_differences 73 = .ok (.istore 4, 2) := by decide +kernel
theorem dX4_differences_75 : decode cX4_differences 75 = .ok (.iload 4, 2) := by decide +kernel
theorem dX4_differences_77 : decode cX4_differences 77 = .ok (.ifCond .ne 6, 3) := by decide +kernel
theorem dX4_differences_80 : decode cX4_differences 80 = .ok (.iinc 2 1, 3) := by decide +kernel
theorem dX4_differences_83 : decode cX4_differences 83 = .ok (.iinc 3 1, 3) := by decide +kernel
theorem dX4_differences_86 : decode cX4_differences 86 = .ok (.goto (-64), 3) := by decide +kernel
theorem dX4_differences_89 : decode cX4_differences 89 = .ok (.iload_n 2, 1) := by decide +kernel
theorem dX4_differences_90 : decode cX4_differences 90 = .ok (.ireturn, 1) := by decide +kernel
theorem dX4_digestModels_0 : decode cX4_digestModels 0 = .ok (.lload_n 1, 1) := by decide +kernel
theorem dX4_digestModels_1 : decode cX4_digestModels 1 = .ok (.ldc2_w 203, 3) := by decide +kernel
theorem dX4_digestModels_4 : decode cX4_digestModels 4 = .ok (.lmul, 1) := by decide +kernel
theorem dX4_digestModels_5 : decode cX4_digestModels 5 = .ok (.aload_n 0, 1) := by decide +kernel
theorem dX4_digestModels_6 : decode cX4_digestModels 6 = .ok (.getfield 27, 3) := by decide +kernel
theorem dX4_digestModels_9 : decode cX4_digestModels 9 = .ok (.getfield 50, 3) := by decide +kernel
theorem dX4_digestModels_12 : decode cX4_digestModels 12 = .ok (.i2l, 1) := by decide +kernel
theorem dX4_digestModels_13 : decode cX4_digestModels 13 = .ok (.ladd, 1) := by decide +kernel
theorem dX4_digestModels_14 : decode cX4_digestModels 14 = .ok (.lstore_n 3, 1) := by decide +kernel
theorem dX4_digestModels_15 : decode cX4_digestModels 15 = .ok (.iconst 0, 1) := by decide +kernel
theorem dX4_digestModels_16 : decode cX4_digestModels 16 = .ok (.istore 5, 2) := by decide +kernel
theorem dX4_digestModels_18 : decode cX4_digestModels 18 = .ok (.iload 5, 2) := by decide +kernel
theorem dX4_digestModels_20 : decode cX4_digestModels 20 = .ok (.aload_n 0, 1) := by decide +kernel
theorem dX4_digestModels_21 : decode cX4_digestModels 21 = .ok (.getfield 27, 3) := by decide +kernel
theorem dX4_digestModels_24 : decode cX4_digestModels 24 = .ok (.getfield 50, 3) := by decide +kernel
theorem dX4_digestModels_27 : decode cX4_digestModels 27 = .ok (.if_icmp .ge 105, 3) := by decide +kernel
theorem dX4_digestModels_30 : decode cX4_digestModels 30 = .ok (.aload_n 0, 1) := by decide +kernel
theorem dX4_digestModels_31 : decode cX4_digestModels 31 = .ok (.getfield 27, 3) := by decide +kernel
theorem dX4_digestModels_34 : decode cX4_digestModels 34 = .ok (.getfield 207, 3) := by decide +kernel
theorem dX4_digestModels_37 : decode cX4_digestModels 37 = .ok (.iload 5, 2) := by decide +kernel
theorem dX4_digestModels_39 : decode cX4_digestModels 39 = .ok (.aaload, 1) := by decide +kernel
theorem dX4_digestModels_40 : decode cX4_digestModels 40 = .ok (.astore 6, 2) := by decide +kernel
theorem dX4_digestModels_42 : decode cX4_digestModels 42 = .ok (.lload_n 3, 1) := by decide +kernel
theorem dX4_digestModels_43 : decode cX4_digestModels 43 = .ok (.ldc2_w 203, 3) := by decide +kernel
theorem dX4_digestModels_46 : decode cX4_digestModels 46 = .ok (.lmul, 1) := by decide +kernel
theorem dX4_digestModels_47 : decode cX4_digestModels 47 = .ok (.aload 6, 2) := by decide +kernel
theorem dX4_digestModels_49 : decode cX4_digestModels 49 = .ok (.getfield 249, 3) := by decide +kernel
theorem dX4_digestModels_52 : decode cX4_digestModels 52 = .ok (.i2l, 1) := by decide +kernel
theorem dX4_digestModels_53 : decode cX4_digestModels 53 = .ok (.ladd, 1) := by decide +kernel
theorem dX4_digestModels_54 : decode cX4_digestModels 54 = .ok (.lstore_n 3, 1) := by decide +kernel
theorem dX4_digestModels_55 : decode cX4_digestModels 55 = .ok (.lload_n 3, 1) := by decide +kernel
theorem dX4_digestModels_56 : decode cX4_digestModels 56 = .ok (.ldc2_w 203, 3) := by decide +kernel
theorem dX4_digestModels_59 : decode cX4_digestModels 59 = .ok (.lmul, 1) := by decide +kernel
theorem dX4_digestModels_60 : decode cX4_digestModels 60 = .ok (.aload 6, 2) := by decide +kernel
theorem dX4_digestModels_62 : decode cX4_digestModels 62 = .ok (.getfield 72, 3) := by decide +kernel
theorem dX4_digestModels_65 : decode cX4_digestModels 65 = .ok (.i2l, 1) := by decide +kernel
theorem dX4_digestModels_66 : decode cX4_digestModels 66 = .ok (.ladd, 1) := by decide +kernel
theorem dX4_digestModels_67 : decode cX4_digestModels 67 = .ok (.lstore_n 3, 1) := by decide +kernel
theorem dX4_digestModels_68 : decode cX4_digestModels 68 = .ok (.lload_n 3, 1) := by decide +kernel
theorem dX4_digestModels_69 : decode cX4_digestModels 69 = .ok (.ldc2_w 203, 3) := by decide +kernel
theorem dX4_digestModels_72 : decode cX4_digestModels 72 = .ok (.lmul, 1) := by decide +kernel
theorem dX4_digestModels_73 : decode cX4_digestModels 73 = .ok (.aload 6, 2) := by decide +kernel
theorem dX4_digestModels_75 : decode cX4_digestModels 75 = .ok (.getfield 252, 3) := by decide +kernel
theorem dX4_digestModels_78 : decode cX4_digestModels 78 = .ok (.i2l, 1) := by decide +kernel
theorem dX4_digestModels_79 : decode cX4_digestModels 79 = .ok (.ladd, 1) := by decide +kernel
theorem dX4_digestModels_80 : decode cX4_digestModels 80 = .ok (.lstore_n 3, 1) := by decide +kernel
theorem dX4_digestModels_81 : decode cX4_digestModels 81 = .ok (.iconst 0, 1) := by decide +kernel
theorem dX4_digestModels_82 : decode cX4_digestModels 82 = .ok (.istore 7, 2) := by decide +kernel
theorem dX4_digestModels_84 : decode cX4_digestModels 84 = .ok (.iload 7, 2) := by decide +kernel
theorem dX4_digestModels_86 : decode cX4_digestModels 86 = .ok (.bipush 8, 2) := by decide +kernel
theorem dX4_digestModels_88 : decode cX4_digestModels 88 = .ok (.if_icmp .ge 25, 3) := by decide +kernel
theorem dX4_digestModels_91 : decode cX4_digestModels 91 = .ok (.lload_n 3, 1) := by decide +kernel
theorem dX4_digestModels_92 : decode cX4_digestModels 92 = .ok (.ldc2_w 203, 3) := by decide +kernel
theorem dX4_digestModels_95 : decode cX4_digestModels 95 = .ok (.lmul, 1) := by decide +kernel
theorem dX4_digestModels_96 : decode cX4_digestModels 96 = .ok (.aload 6, 2) := by decide +kernel
theorem dX4_digestModels_98 : decode cX4_digestModels 98 = .ok (.getfield 138, 3) := by decide +kernel
theorem dX4_digestModels_101 : decode cX4_digestModels 101 = .ok (.iload 7, 2) := by decide +kernel
theorem dX4_digestModels_103 : decode cX4_digestModels 103 = .ok (.iaload, 1) := by decide +kernel
theorem dX4_digestModels_104 : decode cX4_digestModels 104 = .ok (.i2l, 1) := by decide +kernel
theorem dX4_digestModels_105 : decode cX4_digestModels 105 = .ok (.ladd, 1) := by decide +kernel
theorem dX4_digestModels_106 : decode cX4_digestModels 106 = .ok (.lstore_n 3, 1) := by decide +kernel
theorem dX4_digestModels_107 : decode cX4_digestModels 107 = .ok (.iinc 7 1, 3) := by decide +kernel
theorem dX4_digestModels_110 : decode cX4_digestModels 110 = .ok (.goto (-26), 3) := by decide +kernel
theorem dX4_digestModels_113 : decode cX4_digestModels 113 = .ok (.lload_n 3, 1) := by decide +kernel
theorem dX4_digestModels_114 : decode cX4_digestModels 114 = .ok (.ldc2_w 203, 3) := by decide +kernel
theorem dX4_digestModels_117 : decode cX4_digestModels 117 = .ok (.lmul, 1) := by decide +kernel
theorem dX4_digestModels_118 : decode cX4_digestModels 118 = .ok (.aload 6, 2) := by decide +kernel
theorem dX4_digestModels_120 : decode cX4_digestModels 120 = .ok (.getfield 144, 3) := by decide +kernel
theorem dX4_digestModels_123 : decode cX4_digestModels 123 = .ok (.i2l, 1) := by decide +kernel
theorem dX4_digestModels_124 : decode cX4_digestModels 124 = .ok (.ladd, 1) := by decide +kernel
theorem dX4_digestModels_125 : decode cX4_digestModels 125 = .ok (.lstore_n 3, 1) := by decide +kernel
theorem dX4_digestModels_126 : decode cX4_digestModels 126 = .ok (.iinc 5 1, 3) := by decide +kernel
theorem dX4_digestModels_129 : decode cX4_digestModels 129 = .ok (.goto (-111), 3) := by decide +kernel
theorem dX4_digestModels_132 : decode cX4_digestModels 132 = .ok (.lload_n 3, 1) := by decide +kernel
theorem dX4_digestModels_133 : decode cX4_digestModels 133 = .ok (.lreturn, 1) := by decide +kernel
set_option maxRecDepth 20000 in
theorem ggX4_digestBytes_X0_at : GoodIn wsX4_digestBytes wsX0_at := goodIn_r _ [7, 8, 9, 10, 11, 6, 12, 13, 14, 15] (by decide +kernel) (by decide +kernel)
set_option maxRecDepth 20000 in
theorem gX4_digestBytes_X0_at : GoodIn wsX4_digestBytes (wsV RX4 167 RX0 yX0_at wsX0_at) := goodIn_app (goodIn_of _ (by decide +kernel)) ggX4_digestBytes_X0_at
theorem dX4_digestBytes_0 : decode cX4_digestBytes 0 = .ok (.lload_n 0, 1) := by decide +kernel
theorem dX4_digestBytes_1 : decode cX4_digestBytes 1 = .ok (.ldc2_w 203, 3) := by decide +kernel
theorem dX4_digestBytes_4 : decode cX4_digestBytes 4 = .ok (.lmul, 1) := by decide +kernel
theorem dX4_digestBytes_5 : decode cX4_digestBytes 5 = .ok (.aload_n 2, 1) := by decide +kernel
theorem dX4_digestBytes_6 : decode cX4_digestBytes 6 = .ok (.getfield 88, 3) := by decide +kernel
theorem dX4_digestBytes_9 : decode cX4_digestBytes 9 = .ok (.i2l, 1) := by decide +kernel
theorem dX4_digestBytes_10 : decode cX4_digestBytes 10 = .ok (.ladd, 1) := by decide +kernel
theorem dX4_digestBytes_11 : decode cX4_digestBytes 11 = .ok (.lstore_n 3, 1) := by decide +kernel
theorem dX4_digestBytes_12 : decode cX4_digestBytes 12 = .ok (.iconst 0, 1) := by decide +kernel
theorem dX4_digestBytes_13 : decode cX4_digestBytes 13 = .ok (.istore 5, 2) := by decide +kernel
theorem dX4_digestBytes_15 : decode cX4_digestBytes 15 = .ok (.iload 5, 2) := by decide +kernel
theorem dX4_digestBytes_17 : decode cX4_digestBytes 17 = .ok (.aload_n 2, 1) := by decide +kernel
theorem dX4_digestBytes_18 : decode cX4_digestBytes 18 = .ok (.getfield 88, 3) := by decide +kernel
theorem dX4_digestBytes_21 : decode cX4_digestBytes 21 = .ok (.if_icmp .ge 23, 3) := by decide +kernel
theorem dX4_digestBytes_24 : decode cX4_digestBytes 24 = .ok (.lload_n 3, 1) := by decide +kernel
theorem dX4_digestBytes_25 : decode cX4_digestBytes 25 = .ok (.ldc2_w 203, 3) := by decide +kernel
theorem dX4_digestBytes_28 : decode cX4_digestBytes 28 = .ok (.lmul, 1) := by decide +kernel
theorem dX4_digestBytes_29 : decode cX4_digestBytes 29 = .ok (.aload_n 2, 1) := by decide +kernel
theorem dX4_digestBytes_30 : decode cX4_digestBytes 30 = .ok (.iload 5, 2) := by decide +kernel
theorem dX4_digestBytes_32 : decode cX4_digestBytes 32 = .ok (.invokevirtual 167, 3) := by decide +kernel
theorem dX4_digestBytes_35 : decode cX4_digestBytes 35 = .ok (.i2l, 1) := by decide +kernel
theorem dX4_digestBytes_36 : decode cX4_digestBytes 36 = .ok (.ladd, 1) := by decide +kernel
theorem dX4_digestBytes_37 : decode cX4_digestBytes 37 = .ok (.lstore_n 3, 1) := by decide +kernel
theorem dX4_digestBytes_38 : decode cX4_digestBytes 38 = .ok (.iinc 5 1, 3) := by decide +kernel
theorem dX4_digestBytes_41 : decode cX4_digestBytes 41 = .ok (.goto (-26), 3) := by decide +kernel
theorem dX4_digestBytes_44 : decode cX4_digestBytes 44 = .ok (.lload_n 3, 1) := by decide +kernel
theorem dX4_digestBytes_45 : decode cX4_digestBytes 45 = .ok (.lreturn, 1) := by decide +kernel
set_option maxRecDepth 20000 in
theorem ggX5_init_X5_clear : GoodIn wsX5_init wsX5_clear := goodIn_r _ [21, 9, 11, 12, 13, 14, 22, 23, 24, 25, 26, 27, 28, 29, 30, 31, 32, 33, 34, 35, 36, 37, 38, 39, 40, 41, 42, 43, 44, 45, 46] (by decide +kernel) (by decide +kernel)
set_option maxRecDepth 20000 in
theorem gX5_init_X5_clear : GoodIn wsX5_init (wsV RX5 46 RX5 yX5_clear wsX5_clear) := goodIn_app (goodIn_of _ (by decide +kernel)) ggX5_init_X5_clear
theorem dX5_init_0 : decode cX5_init 0 = .ok (.aload_n 0, 1) := by decide +kernel
theorem dX5_init_1 : decode cX5_init 1 = .ok (.invokespecial 1, 3) := by decide +kernel
theorem dX5_init_4 : decode cX5_init 4 = .ok (.aload_n 0, 1) := by decide +kernel
theorem dX5_init_5 : decode cX5_init 5 = .ok (.bipush 6, 2) := by decide +kernel
theorem dX5_init_7 : decode cX5_init 7 = .ok (.newarray .int, 2) := by decide +kernel
theorem dX5_init_9 : decode cX5_init 9 = .ok (.putfield 9, 3) := by decide +kernel
theorem dX5_init_12 : decode cX5_init 12 = .ok (.aload_n 0, 1) := by decide +kernel
theorem dX5_init_13 : decode cX5_init 13 = .ok (.bipush 6, 2) := by decide +kernel
theorem dX5_init_15 : decode cX5_init 15 = .ok (.newarray .int, 2) := by decide +kernel
theorem dX5_init_17 : decode cX5_init 17 = .ok (.putfield 13, 3) := by decide +kernel
theorem dX5_init_20 : decode cX5_init 20 = .ok (.aload_n 0, 1) := by decide +kernel
theorem dX5_init_21 : decode cX5_init 21 = .ok (.bipush 6, 2) := by decide +kernel
theorem dX5_init_23 : decode cX5_init 23 = .ok (.newarray .int, 2) := by decide +kernel
theorem dX5_init_25 : decode cX5_init 25 = .ok (.putfield 16, 3) := by decide +kernel
theorem dX5_init_28 : decode cX5_init 28 = .ok (.aload_n 0, 1) := by decide +kernel
theorem dX5_init_29 : decode cX5_init 29 = .ok (.bipush 80, 2) := by decide +kernel
theorem dX5_init_31 : decode cX5_init 31 = .ok (.newarray .int, 2) := by decide +kernel
theorem dX5_init_33 : decode cX5_init 33 = .ok (.putfield 19, 3) := by decide +kernel
theorem dX5_init_36 : decode cX5_init 36 = .ok (.aload_n 0, 1) := by decide +kernel
theorem dX5_init_37 : decode cX5_init 37 = .ok (.sipush 3072, 3) := by decide +kernel
theorem dX5_init_40 : decode cX5_init 40 = .ok (.newarray .int, 2) := by decide +kernel
theorem dX5_init_42 : decode cX5_init 42 = .ok (.putfield 22, 3) := by decide +kernel
theorem dX5_init_45 : decode cX5_init 45 = .ok (.aload_n 0, 1) := by decide +kernel
theorem dX5_init_46 : decode cX5_init 46 = .ok (.sipush 3072, 3) := by decide +kernel
theorem dX5_init_49 : decode cX5_init 49 = .ok (.newarray .int, 2) := by decide +kernel
theorem dX5_init_51 : decode cX5_init 51 = .ok (.putfield 25, 3) := by decide +kernel
theorem dX5_init_54 : decode cX5_init 54 = .ok (.aload_n 0, 1) := by decide +kernel
theorem dX5_init_55 : decode cX5_init 55 = .ok (.sipush 3072, 3) := by decide +kernel
theorem dX5_init_58 : decode cX5_init 58 = .ok (.newarray .int, 2) := by decide +kernel
theorem dX5_init_60 : decode cX5_init 60 = .ok (.putfield 28, 3) := by decide +kernel
theorem dX5_init_63 : decode cX5_init 63 = .ok (.aload_n 0, 1) := by decide +kernel
theorem dX5_init_64 : decode cX5_init 64 = .ok (.bipush 48, 2) := by decide +kernel
theorem dX5_init_66 : decode cX5_init 66 = .ok (.newarray .int, 2) := by decide +kernel
theorem dX5_init_68 : decode cX5_init 68 = .ok (.putfield 31, 3) := by decide +kernel
theorem dX5_init_71 : decode cX5_init 71 = .ok (.aload_n 0, 1) := by decide +kernel
theorem dX5_init_72 : decode cX5_init 72 = .ok (.bipush 6, 2) := by decide +kernel
theorem dX5_init_74 : decode cX5_init 74 = .ok (.newarray .int, 2) := by decide +kernel
theorem dX5_init_76 : decode cX5_init 76 = .ok (.putfield 34, 3) := by decide +kernel
theorem dX5_init_79 : decode cX5_init 79 = .ok (.aload_n 0, 1) := by decide +kernel
theorem dX5_init_80 : decode cX5_init 80 = .ok (.iconst 3, 1) := by decide +kernel
theorem dX5_init_81 : decode cX5_init 81 = .ok (.newarray .int, 2) := by decide +kernel
theorem dX5_init_83 : decode cX5_init 83 = .ok (.putfield 37, 3) := by decide +kernel
theorem dX5_init_86 : decode cX5_init 86 = .ok (.aload_n 0, 1) := by decide +kernel
theorem dX5_init_87 : decode cX5_init 87 = .ok (.sipush 3000, 3) := by decide +kernel
theorem dX5_init_90 : decode cX5_init 90 = .ok (.newarray .int, 2) := by decide +kernel
theorem dX5_init_92 : decode cX5_init 92 = .ok (.putfield 40, 3) := by decide +kernel
theorem dX5_init_95 : decode cX5_init 95 = .ok (.aload_n 0, 1) := by decide +kernel
theorem dX5_init_96 : decode cX5_init 96 = .ok (.bipush 80, 2) := by decide +kernel
theorem dX5_init_98 : decode cX5_init 98 = .ok (.newarray .int, 2) := by decide +kernel
theorem dX5_init_100 : decode cX5_init 100 = .ok (.putfield 43, 3) := by decide +kernel
theorem dX5_init_103 : decode cX5_init 103 = .ok (.aload_n 0, 1) := by decide +kernel
theorem dX5_init_104 : decode cX5_init 104 = .ok (.invokevirtual 46, 3) := by decide +kernel
theorem dX5_init_107 : decode cX5_init 107 = .ok (.return_, 1) := by decide +kernel
theorem dX5_thrown_0 : decode cX5_thrown 0 = .ok (.aload_n 0, 1) := by decide +kernel
theorem dX5_thrown_1 : decode cX5_thrown 1 = .ok (.getfield 49, 3) := by decide +kernel
theorem dX5_thrown_4 : decode cX5_thrown 4 = .ok (.ireturn, 1) := by decide +kernel
theorem dX5_no_0 : decode cX5_no 0 = .ok (.aload_n 0, 1) := by decide +kernel
theorem dX5_no_1 : decode cX5_no 1 = .ok (.iload_n 1, 1) := by decide +kernel
theorem dX5_no_2 : decode cX5_no 2 = .ok (.putfield 49, 3) := by decide +kernel
theorem dX5_no_5 : decode cX5_no 5 = .ok (.iconst 0, 1) := by decide +kernel
theorem dX5_no_6 : decode cX5_no 6 = .ok (.ireturn, 1) := by decide +kernel
theorem dX5_isIn_0 : decode cX5_isIn 0 = .ok (.iload_n 0, 1) := by decide +kernel
theorem dX5_isIn_1 : decode cX5_isIn 1 = .ok (.iload_n 1, 1) := by decide +kernel
theorem dX5_isIn_2 : decode cX5_isIn 2 = .ok (.if_icmp .lt 12, 3) := by decide +kernel
theorem dX5_isIn_5 : decode cX5_isIn 5 = .ok (.iload_n 0, 1) := by decide +kernel
theorem dX5_isIn_6 : decode cX5_isIn 6 = .ok (.iload_n 2, 1) := by decide +kernel
theorem dX5_isIn_7 : decode cX5_isIn 7 = .ok (.if_icmp .gt 7, 3) := by decide +kernel
theorem dX5_isIn_10 : decode cX5_isIn 10 = .ok (.iconst 1, 1) := by decide +kernel
theorem dX5_isIn_11 : decode cX5_isIn 11 = .ok (.goto 4, 3) := by decide +kernel
theorem dX5_isIn_14 : decode cX5_isIn 14 = .ok (.iconst 0, 1) := by decide +kernel
theorem dX5_isIn_15 : decode cX5_isIn 15 = .ok (.ireturn, 1) := by decide +kernel
set_option maxRecDepth 20000 in
theorem ggX5_isModel_X5_isIn : GoodIn wsX5_isModel wsX5_isIn := goodIn_r _ [5] (by decide +kernel) (by decide +kernel)
set_option maxRecDepth 20000 in
theorem gX5_isModel_X5_isIn : GoodIn wsX5_isModel (va_wsS RX5 56 yX5_isIn wsX5_isIn) := goodIn_app (goodIn_of _ (by decide +kernel)) ggX5_isModel_X5_isIn
theorem dX5_isModel_0 : decode cX5_isModel 0 = .ok (.iload_n 1, 1) := by decide +kernel
theorem dX5_isModel_1 : decode cX5_isModel 1 = .ok (.iconst 0, 1) := by decide +kernel
theorem dX5_isModel_2 : decode cX5_isModel 2 = .ok (.aload_n 0, 1) := by decide +kernel
theorem dX5_isModel_3 : decode cX5_isModel 3 = .ok (.getfield 53, 3) := by decide +kernel
theorem dX5_isModel_6 : decode cX5_isModel 6 = .ok (.iconst 1, 1) := by decide +kernel
theorem dX5_isModel_7 : decode cX5_isModel 7 = .ok (.isub, 1) := by decide +kernel
theorem dX5_isModel_8 : decode cX5_isModel 8 = .ok (.invokestatic 56, 3) := by decide +kernel
theorem dX5_isModel_11 : decode cX5_isModel 11 = .ok (.ireturn, 1) := by decide +kernel
theorem dX5_clear_0 : decode cX5_clear 0 = .ok (.iconst 0, 1) := by decide +kernel
theorem dX5_clear_1 : decode cX5_clear 1 = .ok (.istore_n 1, 1) := by decide +kernel
theorem dX5_clear_2 : decode cX5_clear 2 = .ok (.iload_n 1, 1) := by decide +kernel
theorem dX5_clear_3 : decode cX5_clear 3 = .ok (.sipush 3072, 3) := by decide +kernel
theorem dX5_clear_6 : decode cX5_clear 6 = .ok (.if_icmp .ge 25, 3) := by decide +kernel
theorem dX5_clear_9 : decode cX5_clear 9 = .ok (.aload_n 0, 1) := by decide +kernel
theorem dX5_clear_10 : decode cX5_clear 10 = .ok (.getfield 22, 3) := by decide +kernel
theorem dX5_clear_13 : decode cX5_clear 13 = .ok (.iload_n 1, 1) := by decide +kernel
theorem dX5_clear_14 : decode cX5_clear 14 = .ok (.sipush 2048, 3) := by decide +kernel
theorem dX5_clear_17 : decode cX5_clear 17 = .ok (.iastore, 1) := by decide +kernel
theorem dX5_clear_18 : decode cX5_clear 18 = .ok (.aload_n 0, 1) := by decide +kernel
theorem dX5_clear_19 : decode cX5_clear 19 = .ok (.getfield 28, 3) := by decide +kernel
theorem dX5_clear_22 : decode cX5_clear 22 = .ok (.iload_n 1, 1) := by decide +kernel
theorem dX5_clear_23 : decode cX5_clear 23 = .ok (.iconst 0, 1) := by decide +kernel
theorem dX5_clear_24 : decode cX5_clear 24 = .ok (.iastore, 1) := by decide +kernel
theorem dX5_clear_25 : decode cX5_clear 25 = .ok (.iinc 1 1, 3) := by decide +kernel
theorem dX5_clear_28 : decode cX5_clear 28 = .ok (.goto (-26), 3) := by decide +kernel
theorem dX5_clear_31 : decode cX5_clear 31 = .ok (.iconst 0, 1) := by decide +kernel
theorem dX5_clear_32 : decode cX5_clear 32 = .ok (.istore_n 1, 1) := by decide +kernel
theorem dX5_clear_33 : decode cX5_clear 33 = .ok (.iload_n 1, 1) := by decide +kernel
theorem dX5_clear_34 : decode cX5_clear 34 = .ok (.bipush 48, 2) := by decide +kernel
theorem dX5_clear_36 : decode cX5_clear 36 = .ok (.if_icmp .ge 18, 3) := by decide +kernel
theorem dX5_clear_39 : decode cX5_clear 39 = .ok (.aload_n 0, 1) := by decide +kernel
theorem dX5_clear_40 : decode cX5_clear 40 = .ok (.getfield 31, 3) := by decide +kernel
theorem dX5_clear_43 : decode cX5_clear 43 = .ok (.iload_n 1, 1) := by decide +kernel
theorem dX5_clear_44 : decode cX5_clear 44 = .ok (.sipush 256, 3) := by decide +kernel
theorem dX5_clear_47 : decode cX5_clear 47 = .ok (.iastore, 1) := by decide +kernel
theorem dX5_clear_48 : decode cX5_clear 48 = .ok (.iinc 1 1, 3) := by decide +kernel
theorem dX5_clear_51 : decode cX5_clear 51 = .ok (.goto (-18), 3) := by decide +kernel
theorem dX5_clear_54 : decode cX5_clear 54 = .ok (.iconst 0, 1) := by decide +kernel
theorem dX5_clear_55 : decode cX5_clear 55 = .ok (.istore_n 1, 1) := by decide +kernel
theorem dX5_clear_56 : decode cX5_clear 56 = .ok (.iload_n 1, 1) := by decide +kernel
theorem dX5_clear_57 : decode cX5_clear 57 = .ok (.bipush 6, 2) := by decide +kernel
theorem dX5_clear_59 : decode cX5_clear 59 = .ok (.if_icmp .ge 16, 3) := by decide +kernel
theorem dX5_clear_62 : decode cX5_clear 62 = .ok (.aload_n 0, 1) := by decide +kernel
theorem dX5_clear_63 : decode cX5_clear 63 = .ok (.getfield 34, 3) := by decide +kernel
theorem dX5_clear_66 : decode cX5_clear 66 = .ok (.iload_n 1, 1) := by decide +kernel
theorem dX5_clear_67 : decode cX5_clear 67 = .ok (.iconst 0, 1) := by decide +kernel
theorem dX5_clear_68 : decode cX5_clear 68 = .ok (.iastore, 1) := by decide +kernel
theorem dX5_clear_69 : decode cX5_clear 69 = .ok (.iinc 1 1, 3) := by decide +kernel
theorem dX5_clear_72 : decode cX5_clear 72 = .ok (.goto (-16), 3) := by decide +kernel
theorem dX5_clear_75 : decode cX5_clear 75 = .ok (.iconst 0, 1) := by decide +kernel
theorem dX5_clear_76 : decode cX5_clear 76 = .ok (.istore_n 1, 1) := by decide +kernel
theorem dX5_clear_77 : decode cX5_clear 77 = .ok (.iload_n 1, 1) := by decide +kernel
theorem dX5_clear_78 : decode cX5_clear 78 = .ok (.iconst 3, 1) := by decide +kernel
theorem dX5_clear_79 : decode cX5_clear 79 = .ok (.if_icmp .ge 16, 3) := by decide +kernel
theorem dX5_clear_82 : decode cX5_clear 82 = .ok (.aload_n 0, 1) := by decide +kernel
theorem dX5_clear_83 : decode cX5_clear 83 = .ok (.getfield 37, 3) := by decide +kernel
theorem dX5_clear_86 : decode cX5_clear 86 = .ok (.iload_n 1, 1) := by decide +kernel
theorem dX5_clear_87 : decode cX5_clear 87 = .ok (.iconst 0, 1) := by decide +kernel
theorem dX5_clear_88 : decode cX5_clear 88 = .ok (.iastore, 1) := by decide +kernel
theorem dX5_clear_89 : decode cX5_clear 89 = .ok (.iinc 1 1, 3) := by decide +kernel
theorem dX5_clear_92 : decode cX5_clear 92 = .ok (.goto (-15), 3) := by decide +kernel
theorem dX5_clear_95 : decode cX5_clear 95 = .ok (.aload_n 0, 1) := by decide +kernel
theorem dX5_clear_96 : decode cX5_clear 96 = .ok (.iconst 1, 1) := by decide +kernel
theorem dX5_clear_97 : decode cX5_clear 97 = .ok (.putfield 60, 3) := by decide +kernel
theorem dX5_clear_100 : decode cX5_clear 100 = .ok (.aload_n 0, 1) := by decide +kernel
theorem dX5_clear_101 : decode cX5_clear 101 = .ok (.iconst 0, 1) := by decide +kernel
theorem dX5_clear_102 : decode cX5_clear 102 = .ok (.putfield 63, 3) := by decide +kernel
theorem dX5_clear_105 : decode cX5_clear 105 = .ok (.aload_n 0, 1) := by decide +kernel
theorem dX5_clear_106 : decode cX5_clear 106 = .ok (.lconst 0, 1) := by decide +kernel
theorem dX5_clear_107 : decode cX5_clear 107 = .ok (.putfield 66, 3) := by decide +kernel
theorem dX5_clear_110 : decode cX5_clear 110 = .ok (.return_, 1) := by decide +kernel
set_option maxRecDepth 20000 in
theorem ggX5_addModel_X5_isIn : GoodIn wsX5_addModel wsX5_isIn := goodIn_r _ [9] (by decide +kernel) (by decide +kernel)
set_option maxRecDepth 20000 in
theorem gX5_addModel_X5_isIn : GoodIn wsX5_addModel (va_wsS RX5 56 yX5_isIn wsX5_isIn) := goodIn_app (goodIn_of _ (by decide +kernel)) ggX5_addModel_X5_isIn
set_option maxRecDepth 20000 in
theorem ggX5_addModel_X5_no : GoodIn wsX5_addModel wsX5_no := goodIn_r _ [13, 1, 26, 27, 28, 29, 30, 31, 32, 33, 34, 35, 36, 37, 38, 39, 40, 41, 42, 43, 44, 45, 46, 47] (by decide +kernel) (by decide +kernel)
set_option maxRecDepth 20000 in
theorem gX5_addModel_X5_no : GoodIn wsX5_addModel (wsV RX5 70 RX5 yX5_no wsX5_no) := goodIn_app (goodIn_of _ (by decide +kernel)) ggX5_addModel_X5_no
set_option maxRecDepth 20000 in
theorem ggX5_addModel_X5_clear : GoodIn wsX5_addModel wsX5_clear := goodIn_r _ [17, 18, 19, 20, 21, 22, 23, 24, 25, 26, 27, 28, 29, 30, 31, 32, 33, 34, 35, 36, 37, 38, 39, 40, 41, 42, 43, 44, 45, 46, 47] (by decide +kernel) (by decide +kernel)
set_option maxRecDepth 20000 in
theorem gX5_addModel_X5_clear : GoodIn wsX5_addModel (wsV RX5 46 RX5 yX5_clear wsX5_clear) := goodIn_app (goodIn_of _ (by decide +kernel)) ggX5_addModel_X5_clear
theorem dX5_addModel_0 : decode cX5_addModel 0 = .ok (.aload_n 0, 1) := by decide +kernel
theorem dX5_addModel_1 : decode cX5_addModel 1 = .ok (.iconst 0, 1) := by decide +kernel
theorem dX5_addModel_2 : decode cX5_addModel 2 = .ok (.putfield 49, 3) := by decide +kernel
theorem dX5_addModel_5 : decode cX5_addModel 5 = .ok (.iload_n 1, 1) := by decide +kernel
theorem dX5_addModel_6 : decode cX5_addModel 6 = .ok (.iconst 0, 1) := by decide +kernel
theorem dX5_addModel_7 : decode cX5_addModel 7 = .ok (.iconst 3, 1) := by decide +kernel
theorem dX5_addModel_8 : decode cX5_addModel 8 = .ok (.invokestatic 56, 3) := by decide +kernel
theorem dX5_addModel_11 : decode cX5_addModel 11 = .ok (.ifCond .eq 23, 3) := by decide +kernel
theorem dX5_addModel_14 : decode cX5_addModel 14 = .ok (.iload_n 2, 1) := by decide +kernel
theorem dX5_addModel_15 : decode cX5_addModel 15 = .ok (.iconst 2, 1) := by decide +kernel
theorem dX5_addModel_16 : decode cX5_addModel 16 = .ok (.bipush 7, 2) := by decide +kernel
theorem dX5_addModel_18 : decode cX5_addModel 18 = .ok (.invokestatic 56, 3) := by decide +kernel
theorem dX5_addModel_21 : decode cX5_addModel 21 = .ok (.ifCond .eq 13, 3) := by decide +kernel
theorem dX5_addModel_24 : decode cX5_addModel 24 = .ok (.iload_n 3, 1) := by decide +kernel
theorem dX5_addModel_25 : decode cX5_addModel 25 = .ok (.iconst 4, 1) := by decide +kernel
theorem dX5_addModel_26 : decode cX5_addModel 26 = .ok (.bipush 9, 2) := by decide +kernel
theorem dX5_addModel_28 : decode cX5_addModel 28 = .ok (.invokestatic 56, 3) := by decide +kernel
theorem dX5_addModel_31 : decode cX5_addModel 31 = .ok (.ifCond .ne 9, 3) := by decide +kernel
theorem dX5_addModel_34 : decode cX5_addModel 34 = .ok (.aload_n 0, 1) := by decide +kernel
theorem dX5_addModel_35 : decode cX5_addModel 35 = .ok (.iconst 1, 1) := by decide +kernel
theorem dX5_addModel_36 : decode cX5_addModel 36 = .ok (.invokevirtual 70, 3) := by decide +kernel
theorem dX5_addModel_39 : decode cX5_addModel 39 = .ok (.ireturn, 1) := by decide +kernel
theorem dX5_addModel_40 : decode cX5_addModel 40 = .ok (.aload_n 0, 1) := by decide +kernel
theorem dX5_addModel_41 : decode cX5_addModel 41 = .ok (.getfield 53, 3) := by decide +kernel
theorem dX5_addModel_44 : decode cX5_addModel 44 = .ok (.bipush 6, 2) := by decide +kernel
theorem dX5_addModel_46 : decode cX5_addModel 46 = .ok (.if_icmp .ne 9, 3) := by decide +kernel
theorem dX5_addModel_49 : decode cX5_addModel 49 = .ok (.aload_n 0, 1) := by decide +kernel
theorem dX5_addModel_50 : decode cX5_addModel 50 = .ok (.iconst 2, 1) := by decide +kernel
theorem dX5_addModel_51 : decode cX5_addModel 51 = .ok (.invokevirtual 70, 3) := by decide +kernel
theorem dX5_addModel_54 : decode cX5_addModel 54 = .ok (.ireturn, 1) := by decide +kernel
theorem dX5_addModel_55 : decode cX5_addModel 55 = .ok (.aload_n 0, 1) := by decide +kernel
theorem dX5_addModel_56 : decode cX5_addModel 56 = .ok (.getfield 9, 3) := by decide +kernel
theorem dX5_addModel_59 : decode cX5_addModel 59 = .ok (.aload_n 0, 1) := by decide +kernel
theorem dX5_addModel_60 : decode cX5_addModel 60 = .ok (.getfield 53, 3) := by decide +kernel
theorem dX5_addModel_63 : decode cX5_addModel 63 = .ok (.iload_n 1, 1) := by decide +kernel
theorem dX5_addModel_64 : decode cX5_addModel 64 = .ok (.iastore, 1) := by decide +kernel
theorem dX5_addModel_65 : decode cX5_addModel 65 = .ok (.aload_n 0, 1) := by decide +kernel
theorem dX5_addModel_66 : decode cX5_addModel 66 = .ok (.getfield 13, 3) := by decide +kernel
theorem dX5_addModel_69 : decode cX5_addModel 69 = .ok (.aload_n 0, 1) := by decide +kernel
theorem dX5_addModel_70 : decode cX5_addModel 70 = .ok (.getfield 53, 3) := by decide +kernel
theorem dX5_addModel_73 : decode cX5_addModel 73 = .ok (.iload_n 2, 1) := by decide +kernel
theorem dX5_addModel_74 : decode cX5_addModel 74 = .ok (.iastore, 1) := by decide +kernel
theorem dX5_addModel_75 : decode cX5_addModel 75 = .ok (.aload_n 0, 1) := by decide +kernel
theorem dX5_addModel_76 : decode cX5_addModel 76 = .ok (.getfield 16, 3) := by decide +kernel
theorem dX5_addModel_79 : decode cX5_addModel 79 = .ok (.aload_n 0, 1) := by decide +kernel
theorem dX5_addModel_80 : decode cX5_addModel 80 = .ok (.getfield 53, 3) := by decide +kernel
theorem dX5_addModel_83 : decode cX5_addModel 83 = .ok (.iload_n 3, 1) := by decide +kernel
theorem dX5_addModel_84 : decode cX5_addModel 84 = .ok (.iastore, 1) := by decide +kernel
theorem dX5_addModel_85 : decode cX5_addModel 85 = .ok (.aload_n 0, 1) := by decide +kernel
theorem dX5_addModel_86 : decode cX5_addModel 86 = .ok (.dup, 1) := by decide +kernel
theorem dX5_addModel_87 : decode cX5_addModel 87 = .ok (.getfield 53, 3) := by decide +kernel
theorem dX5_addModel_90 : decode cX5_addModel 90 = .ok (.iconst 1, 1) := by decide +kernel
theorem dX5_addModel_91 : decode cX5_addModel 91 = .ok (.iadd, 1) := by decide +kernel
theorem dX5_addModel_92 : decode cX5_addModel 92 = .ok (.putfield 53, 3) := by decide +kernel
theorem dX5_addModel_95 : decode cX5_addModel 95 = .ok (.aload_n 0, 1) := by decide +kernel
theorem dX5_addModel_96 : decode cX5_addModel 96 = .ok (.invokevirtual 46, 3) := by decide +kernel
theorem dX5_addModel_99 : decode cX5_addModel 99 = .ok (.aload_n 0, 1) := by decide +kernel
theorem dX5_addModel_100 : decode cX5_addModel 100 = .ok (.getfield 53, 3) := by decide +kernel
theorem dX5_addModel_103 : decode cX5_addModel 103 = .ok (.iconst 1, 1) := by decide +kernel
theorem dX5_addModel_104 : decode cX5_addModel 104 = .ok (.isub, 1) := by decide +kernel
theorem dX5_addModel_105 : decode cX5_addModel 105 = .ok (.ireturn, 1) := by decide +kernel
set_option maxRecDepth 20000 in
theorem ggX5_removeModel_X5_no : GoodIn wsX5_removeModel wsX5_no := goodIn_r _ [7, 1, 20, 21, 22, 23, 24, 25, 26, 27, 28, 29, 30, 31, 32, 33, 34, 35, 36, 37, 38, 39, 40, 41] (by decide +kernel) (by decide +kernel)
set_option maxRecDepth 20000 in
theorem gX5_removeModel_X5_no : GoodIn wsX5_removeModel (wsV RX5 70 RX5 yX5_no wsX5_no) := goodIn_app (goodIn_of _ (by decide +kernel)) ggX5_removeModel_X5_no
set_option maxRecDepth 20000 in
theorem ggX5_removeModel_X5_clear : GoodIn wsX5_removeModel wsX5_clear := goodIn_r _ [11, 12, 13, 14, 15, 16, 17, 18, 19, 20, 21, 22, 23, 24, 25, 26, 27, 28, 29, 30, 31, 32, 33, 34, 35, 36, 37, 38, 39, 40, 41] (by decide +kernel) (by decide +kernel)
set_option maxRecDepth 20000 in
theorem gX5_removeModel_X5_clear : GoodIn wsX5_removeModel (wsV RX5 46 RX5 yX5_clear wsX5_clear) := goodIn_app (goodIn_of _ (by decide +kernel)) ggX5_removeModel_X5_clear
theorem dX5_removeModel_0 : decode cX5_removeModel 0 = .ok (.aload_n 0, 1) := by decide +kernel
theorem dX5_removeModel_1 : decode cX5_removeModel 1 = .ok (.iconst 0, 1) := by decide +kernel
theorem dX5_removeModel_2 : decode cX5_removeModel 2 = .ok (.putfield 49, 3) := by decide +kernel
theorem dX5_removeModel_5 : decode cX5_removeModel 5 = .ok (.aload_n 0, 1) := by decide +kernel
theorem dX5_removeModel_6 : decode cX5_removeModel 6 = .ok (.getfield 53, 3) := by decide +kernel
theorem dX5_removeModel_9 : decode cX5_removeModel 9 = .ok (.ifCond .ne 9, 3) := by decide +kernel
theorem dX5_removeModel_12 : decode cX5_removeModel 12 = .ok (.aload_n 0, 1) := by decide +kernel
theorem dX5_removeModel_13 : decode cX5_removeModel 13 = .ok (.iconst 1, 1) := by decide +kernel
theorem dX5_removeModel_14 : decode cX5_removeModel 14 = .ok (.invokevirtual 70, 3) := by decide +kernel
theorem dX5_removeModel_17 : decode cX5_removeModel 17 = .ok (.ireturn, 1) := by decide +kernel
theorem dX5_removeModel_18 : decode cX5_removeModel 18 = .ok (.aload_n 0, 1) := by decide +kernel
theorem dX5_removeModel_19 : decode cX5_removeModel 19 = .ok (.dup, 1) := by decide +kernel
theorem dX5_removeModel_20 : decode cX5_removeModel 20 = .ok (.getfield 53, 3) := by decide +kernel
theorem dX5_removeModel_23 : decode cX5_removeModel 23 = .ok (.iconst 1, 1) := by decide +kernel
theorem dX5_removeModel_24 : decode cX5_removeModel 24 = .ok (.isub, 1) := by decide +kernel
theorem dX5_removeModel_25 : decode cX5_removeModel 25 = .ok (.putfield 53, 3) := by decide +kernel
theorem dX5_removeModel_28 : decode cX5_removeModel 28 = .ok (.aload_n 0, 1) := by decide +kernel
theorem dX5_removeModel_29 : decode cX5_removeModel 29 = .ok (.invokevirtual 46, 3) := by decide +kernel
theorem dX5_removeModel_32 : decode cX5_removeModel 32 = .ok (.aload_n 0, 1) := by decide +kernel
theorem dX5_removeModel_33 : decode cX5_removeModel 33 = .ok (.getfield 53, 3) := by decide +kernel
theorem dX5_removeModel_36 : decode cX5_removeModel 36 = .ok (.ireturn, 1) := by decide +kernel
set_option maxRecDepth 20000 in
theorem ggX5_setRate_X5_isModel : GoodIn wsX5_setRate wsX5_isModel := goodIn_r _ [7, 8, 9, 10, 6, 11, 28, 29, 30, 31, 32, 33, 34, 35, 36, 37, 38, 39, 40, 41, 42, 43, 44, 45, 46, 47, 48, 49] (by decide +kernel) (by decide +kernel)
set_option maxRecDepth 20000 in
theorem gX5_setRate_X5_isModel : GoodIn wsX5_setRate (wsV RX5 74 RX5 yX5_isModel wsX5_isModel) := goodIn_app (goodIn_of _ (by decide +kernel)) ggX5_setRate_X5_isModel
set_option maxRecDepth 20000 in
theorem ggX5_setRate_X5_no : GoodIn wsX5_setRate wsX5_no := goodIn_r _ [15, 1, 28, 29, 30, 31, 32, 33, 34, 35, 36, 37, 38, 39, 40, 41, 42, 43, 44, 45, 46, 47, 48, 49] (by decide +kernel) (by decide +kernel)
set_option maxRecDepth 20000 in
theorem gX5_setRate_X5_no : GoodIn wsX5_setRate (wsV RX5 70 RX5 yX5_no wsX5_no) := goodIn_app (goodIn_of _ (by decide +kernel)) ggX5_setRate_X5_no
set_option maxRecDepth 20000 in
theorem ggX5_setRate_X5_isIn : GoodIn wsX5_setRate wsX5_isIn := goodIn_r _ [11] (by decide +kernel) (by decide +kernel)
set_option maxRecDepth 20000 in
theorem gX5_setRate_X5_isIn : GoodIn wsX5_setRate (va_wsS RX5 56 yX5_isIn wsX5_isIn) := goodIn_app (goodIn_of _ (by decide +kernel)) ggX5_setRate_X5_isIn
set_option maxRecDepth 20000 in
theorem ggX5_setRate_X5_clear : GoodIn wsX5_setRate wsX5_clear := goodIn_r _ [19, 20, 21, 22, 23, 24, 25, 26, 27, 28, 29, 30, 31, 32, 33, 34, 35, 36, 37, 38, 39, 40, 41, 42, 43, 44, 45, 46, 47, 48, 49] (by decide +kernel) (by decide +kernel)
set_option maxRecDepth 20000 in
theorem gX5_setRate_X5_clear : GoodIn wsX5_setRate (wsV RX5 46 RX5 yX5_clear wsX5_clear) := goodIn_app (goodIn_of _ (by decide +kernel)) ggX5_setRate_X5_clear
theorem dX5_setRate_0 : decode cX5_setRate 0 = .ok (.aload_n 0, 1) := by decide +kernel
theorem dX5_setRate_1 : decode cX5_setRate 1 = .ok (.iconst 0, 1) := by decide +kernel
theorem dX5_setRate_2 : decode cX5_setRate 2 = .ok (.putfield 49, 3) := by decide +kernel
theorem dX5_setRate_5 : decode cX5_setRate 5 = .ok (.aload_n 0, 1) := by decide +kernel
theorem dX5_setRate_6 : decode cX5_setRate 6 = .ok (.iload_n 1, 1) := by decide +kernel
theorem dX5_setRate_7 : decode cX5_setRate 7 = .ok (.invokevirtual 74, 3) := by decide +kernel
theorem dX5_setRate_10 : decode cX5_setRate 10 = .ok (.ifCond .ne 9, 3) := by decide +kernel
theorem dX5_setRate_13 : decode cX5_setRate 13 = .ok (.aload_n 0, 1) := by decide +kernel
theorem dX5_setRate_14 : decode cX5_setRate 14 = .ok (.iconst 1, 1) := by decide +kernel
theorem dX5_setRate_15 : decode cX5_setRate 15 = .ok (.invokevirtual 70, 3) := by decide +kernel
theorem dX5_setRate_18 : decode cX5_setRate 18 = .ok (.ireturn, 1) := by decide +kernel
theorem dX5_setRate_19 : decode cX5_setRate 19 = .ok (.iload_n 2, 1) := by decide +kernel
theorem dX5_setRate_20 : decode cX5_setRate 20 = .ok (.iconst 2, 1) := by decide +kernel
theorem dX5_setRate_21 : decode cX5_setRate 21 = .ok (.bipush 7, 2) := by decide +kernel
theorem dX5_setRate_23 : decode cX5_setRate 23 = .ok (.invokestatic 56, 3) := by decide +kernel
theorem dX5_setRate_26 : decode cX5_setRate 26 = .ok (.ifCond .ne 9, 3) := by decide +kernel
theorem dX5_setRate_29 : decode cX5_setRate 29 = .ok (.aload_n 0, 1) := by decide +kernel
theorem dX5_setRate_30 : decode cX5_setRate 30 = .ok (.iconst 2, 1) := by decide +kernel
theorem dX5_setRate_31 : decode cX5_setRate 31 = .ok (.invokevirtual 70, 3) := by decide +kernel
theorem dX5_setRate_34 : decode cX5_setRate 34 = .ok (.ireturn, 1) := by decide +kernel
theorem dX5_setRate_35 : decode cX5_setRate 35 = .ok (.aload_n 0, 1) := by decide +kernel
theorem dX5_setRate_36 : decode cX5_setRate 36 = .ok (.getfield 13, 3) := by decide +kernel
theorem dX5_setRate_39 : decode cX5_setRate 39 = .ok (.iload_n 1, 1) := by decide +kernel
theorem dX5_setRate_40 : decode cX5_setRate 40 = .ok (.iaload, 1) := by decide +kernel
theorem dX5_setRate_41 : decode cX5_setRate 41 = .ok (.istore_n 3, 1) := by decide +kernel
theorem dX5_setRate_42 : decode cX5_setRate 42 = .ok (.aload_n 0, 1) := by decide +kernel
theorem dX5_setRate_43 : decode cX5_setRate 43 = .ok (.getfield 13, 3) := by decide +kernel
theorem dX5_setRate_46 : decode cX5_setRate 46 = .ok (.iload_n 1, 1) := by decide +kernel
theorem dX5_setRate_47 : decode cX5_setRate 47 = .ok (.iload_n 2, 1) := by decide +kernel
theorem dX5_setRate_48 : decode cX5_setRate 48 = .ok (.iastore, 1) := by decide +kernel
theorem dX5_setRate_49 : decode cX5_setRate 49 = .ok (.aload_n 0, 1) := by decide +kernel
theorem dX5_setRate_50 : decode cX5_setRate 50 = .ok (.invokevirtual 46, 3) := by decide +kernel
theorem dX5_setRate_53 : decode cX5_setRate 53 = .ok (.iload_n 3, 1) := by decide +kernel
theorem dX5_setRate_54 : decode cX5_setRate 54 = .ok (.ireturn, 1) := by decide +kernel
theorem dX5_modelCount_0 : decode cX5_modelCount 0 = .ok (.aload_n 0, 1) := by decide +kernel
theorem dX5_modelCount_1 : decode cX5_modelCount 1 = .ok (.iconst 0, 1) := by decide +kernel
theorem dX5_modelCount_2 : decode cX5_modelCount 2 = .ok (.putfield 49, 3) := by decide +kernel
theorem dX5_modelCount_5 : decode cX5_modelCount 5 = .ok (.aload_n 0, 1) := by decide +kernel
theorem dX5_modelCount_6 : decode cX5_modelCount 6 = .ok (.getfield 53, 3) := by decide +kernel
theorem dX5_modelCount_9 : decode cX5_modelCount 9 = .ok (.ireturn, 1) := by decide +kernel
set_option maxRecDepth 20000 in
theorem ggX5_feed_X5_isIn : GoodIn wsX5_feed wsX5_isIn := goodIn_r _ [8] (by decide +kernel) (by decide +kernel)
set_option maxRecDepth 20000 in
theorem gX5_feed_X5_isIn : GoodIn wsX5_feed (va_wsS RX5 56 yX5_isIn wsX5_isIn) := goodIn_app (goodIn_of _ (by decide +kernel)) ggX5_feed_X5_isIn
set_option maxRecDepth 20000 in
theorem ggX5_feed_X5_no : GoodIn wsX5_feed wsX5_no := goodIn_r _ [12, 1, 13, 14, 15, 16, 17, 18, 19, 20, 21, 22, 23, 24, 25, 26, 27, 28, 29, 30, 31, 32, 33, 34] (by decide +kernel) (by decide +kernel)
set_option maxRecDepth 20000 in
theorem gX5_feed_X5_no : GoodIn wsX5_feed (wsV RX5 70 RX5 yX5_no wsX5_no) := goodIn_app (goodIn_of _ (by decide +kernel)) ggX5_feed_X5_no
theorem dX5_feed_0 : decode cX5_feed 0 = .ok (.aload_n 0, 1) := by decide +kernel
theorem dX5_feed_1 : decode cX5_feed 1 = .ok (.iconst 0, 1) := by decide +kernel
theorem dX5_feed_2 : decode cX5_feed 2 = .ok (.putfield 49, 3) := by decide +kernel
theorem dX5_feed_5 : decode cX5_feed 5 = .ok (.iload_n 3, 1) := by decide +kernel
theorem dX5_feed_6 : decode cX5_feed 6 = .ok (.iconst 1, 1) := by decide +kernel
theorem dX5_feed_7 : decode cX5_feed 7 = .ok (.bipush 8, 2) := by decide +kernel
theorem dX5_feed_9 : decode cX5_feed 9 = .ok (.invokestatic 56, 3) := by decide +kernel
theorem dX5_feed_12 : decode cX5_feed 12 = .ok (.ifCond .ne 9, 3) := by decide +kernel
theorem dX5_feed_15 : decode cX5_feed 15 = .ok (.aload_n 0, 1) := by decide +kernel
theorem dX5_feed_16 : decode cX5_feed 16 = .ok (.iconst 1, 1) := by decide +kernel
theorem dX5_feed_17 : decode cX5_feed 17 = .ok (.invokevirtual 70, 3) := by decide +kernel
theorem dX5_feed_20 : decode cX5_feed 20 = .ok (.ireturn, 1) := by decide +kernel
theorem dX5_feed_21 : decode cX5_feed 21 = .ok (.aload_n 0, 1) := by decide +kernel
theorem dX5_feed_22 : decode cX5_feed 22 = .ok (.getfield 78, 3) := by decide +kernel
theorem dX5_feed_25 : decode cX5_feed 25 = .ok (.iload_n 3, 1) := by decide +kernel
theorem dX5_feed_26 : decode cX5_feed 26 = .ok (.iadd, 1) := by decide +kernel
theorem dX5_feed_27 : decode cX5_feed 27 = .ok (.bipush 80, 2) := by decide +kernel
theorem dX5_feed_29 : decode cX5_feed 29 = .ok (.if_icmp .le 9, 3) := by decide +kernel
theorem dX5_feed_32 : decode cX5_feed 32 = .ok (.aload_n 0, 1) := by decide +kernel
theorem dX5_feed_33 : decode cX5_feed 33 = .ok (.iconst 2, 1) := by decide +kernel
theorem dX5_feed_34 : decode cX5_feed 34 = .ok (.invokevirtual 70, 3) := by decide +kernel
theorem dX5_feed_37 : decode cX5_feed 37 = .ok (.ireturn, 1) := by decide +kernel
theorem dX5_feed_38 : decode cX5_feed 38 = .ok (.iload_n 3, 1) := by decide +kernel
theorem dX5_feed_39 : decode cX5_feed 39 = .ok (.iconst 1, 1) := by decide +kernel
theorem dX5_feed_40 : decode cX5_feed 40 = .ok (.isub, 1) := by decide +kernel
theorem dX5_feed_41 : decode cX5_feed 41 = .ok (.istore 4, 2) := by decide +kernel
theorem dX5_feed_43 : decode cX5_feed 43 = .ok (.iload 4, 2) := by decide +kernel
theorem dX5_feed_45 : decode cX5_feed 45 = .ok (.ifCond .lt 40, 3) := by decide +kernel
theorem dX5_feed_48 : decode cX5_feed 48 = .ok (.aload_n 0, 1) := by decide +kernel
theorem dX5_feed_49 : decode cX5_feed 49 = .ok (.getfield 19, 3) := by decide +kernel
theorem dX5_feed_52 : decode cX5_feed 52 = .ok (.aload_n 0, 1) := by decide +kernel
theorem dX5_feed_53 : decode cX5_feed 53 = .ok (.getfield 78, 3) := by decide +kernel
theorem dX5_feed_56 : decode cX5_feed 56 = .ok (.lload_n 1, 1) := by decide +kernel
theorem dX5_feed_57 : decode cX5_feed 57 = .ok (.bipush 8, 2) := by decide +kernel
theorem dX5_feed_59 : decode cX5_feed 59 = .ok (.iload 4, 2) := by decide +kernel
theorem dX5_feed_61 : decode cX5_feed 61 = .ok (.imul, 1) := by decide +kernel
theorem dX5_feed_62 : decode cX5_feed 62 = .ok (.lshr, 1) := by decide +kernel
theorem dX5_feed_63 : decode cX5_feed 63 = .ok (.ldc2_w 81, 3) := by decide +kernel
theorem dX5_feed_66 : decode cX5_feed 66 = .ok (.land, 1) := by decide +kernel
theorem dX5_feed_67 : decode cX5_feed 67 = .ok (.l2i, 1) := by decide +kernel
theorem dX5_feed_68 : decode cX5_feed 68 = .ok (.iastore, 1) := by decide +kernel
theorem dX5_feed_69 : decode cX5_feed 69 = .ok (.aload_n 0, 1) := by decide +kernel
theorem dX5_feed_70 : decode cX5_feed 70 = .ok (.dup, 1) := by decide +kernel
theorem dX5_feed_71 : decode cX5_feed 71 = .ok (.getfield 78, 3) := by decide +kernel
theorem dX5_feed_74 : decode cX5_feed 74 = .ok (.iconst 1, 1) := by decide +kernel
theorem dX5_feed_75 : decode cX5_feed 75 = .ok (.iadd, 1) := by decide +kernel
theorem dX5_feed_76 : decode cX5_feed 76 = .ok (.putfield 78, 3) := by decide +kernel
theorem dX5_feed_79 : decode cX5_feed 79 = .ok (.iinc 4 (-1), 3) := by decide +kernel
theorem dX5_feed_82 : decode cX5_feed 82 = .ok (.goto (-39), 3) := by decide +kernel
theorem dX5_feed_85 : decode cX5_feed 85 = .ok (.aload_n 0, 1) := by decide +kernel
theorem dX5_feed_86 : decode cX5_feed 86 = .ok (.getfield 78, 3) := by decide +kernel
theorem dX5_feed_89 : decode cX5_feed 89 = .ok (.ireturn, 1) := by decide +kernel
set_option maxRecDepth 20000 in
theorem ggX5_fill_X5_isIn : GoodIn wsX5_fill wsX5_isIn := goodIn_r _ [7] (by decide +kernel) (by decide +kernel)
set_option maxRecDepth 20000 in
theorem gX5_fill_X5_isIn : GoodIn wsX5_fill (va_wsS RX5 56 yX5_isIn wsX5_isIn) := goodIn_app (goodIn_of _ (by decide +kernel)) ggX5_fill_X5_isIn
set_option maxRecDepth 20000 in
theorem ggX5_fill_X5_no : GoodIn wsX5_fill wsX5_no := goodIn_r _ [11, 1, 12, 13, 14, 15, 16, 17, 18, 19, 20, 21, 22, 23, 24, 25, 26, 27, 28, 29, 30, 31, 32, 33] (by decide +kernel) (by decide +kernel)
set_option maxRecDepth 20000 in
theorem gX5_fill_X5_no : GoodIn wsX5_fill (wsV RX5 70 RX5 yX5_no wsX5_no) := goodIn_app (goodIn_of _ (by decide +kernel)) ggX5_fill_X5_no
theorem dX5_fill_0 : decode cX5_fill 0 = .ok (.aload_n 0, 1) := by decide +kernel
theorem dX5_fill_1 : decode cX5_fill 1 = .ok (.iconst 0, 1) := by decide +kernel
theorem dX5_fill_2 : decode cX5_fill 2 = .ok (.putfield 49, 3) := by decide +kernel
theorem dX5_fill_5 : decode cX5_fill 5 = .ok (.iload_n 1, 1) := by decide +kernel
theorem dX5_fill_6 : decode cX5_fill 6 = .ok (.iconst 0, 1) := by decide +kernel
theorem dX5_fill_7 : decode cX5_fill 7 = .ok (.sipush 255, 3) := by decide +kernel
theorem dX5_fill_10 : decode cX5_fill 10 = .ok (.invokestatic 56, 3) := by decide +kernel
theorem dX5_fill_13 : decode cX5_fill 13 = .ok (.ifCond .eq 13, 3) := by decide +kernel
theorem dX5_fill_16 : decode cX5_fill 16 = .ok (.iload_n 2, 1) := by decide +kernel
theorem dX5_fill_17 : decode cX5_fill 17 = .ok (.iconst 1, 1) := by decide +kernel
theorem dX5_fill_18 : decode cX5_fill 18 = .ok (.bipush 80, 2) := by decide +kernel
theorem dX5_fill_20 : decode cX5_fill 20 = .ok (.invokestatic 56, 3) := by decide +kernel
theorem dX5_fill_23 : decode cX5_fill 23 = .ok (.ifCond .ne 9, 3) := by decide +kernel
theorem dX5_fill_26 : decode cX5_fill 26 = .ok (.aload_n 0, 1) := by decide +kernel
theorem dX5_fill_27 : decode cX5_fill 27 = .ok (.iconst 1, 1) := by decide +kernel
theorem dX5_fill_28 : decode cX5_fill 28 = .ok (.invokevirtual 70, 3) := by decide +kernel
theorem dX5_fill_31 : decode cX5_fill 31 = .ok (.ireturn, 1) := by decide +kernel
theorem dX5_fill_32 : decode cX5_fill 32 = .ok (.aload_n 0, 1) := by decide +kernel
theorem dX5_fill_33 : decode cX5_fill 33 = .ok (.getfield 78, 3) := by decide +kernel
theorem dX5_fill_36 : decode cX5_fill 36 = .ok (.iload_n 2, 1) := by decide +kernel
theorem dX5_fill_37 : decode cX5_fill 37 = .ok (.iadd, 1) := by decide +kernel
theorem dX5_fill_38 : decode cX5_fill 38 = .ok (.bipush 80, 2) := by decide +kernel
theorem dX5_fill_40 : decode cX5_fill 40 = .ok (.if_icmp .le 9, 3) := by decide +kernel
theorem dX5_fill_43 : decode cX5_fill 43 = .ok (.aload_n 0, 1) := by decide +kernel
theorem dX5_fill_44 : decode cX5_fill 44 = .ok (.iconst 2, 1) := by decide +kernel
theorem dX5_fill_45 : decode cX5_fill 45 = .ok (.invokevirtual 70, 3) := by decide +kernel
theorem dX5_fill_48 : decode cX5_fill 48 = .ok (.ireturn, 1) := by decide +kernel
theorem dX5_fill_49 : decode cX5_fill 49 = .ok (.iconst 0, 1) := by decide +kernel
theorem dX5_fill_50 : decode cX5_fill 50 = .ok (.istore_n 3, 1) := by decide +kernel
theorem dX5_fill_51 : decode cX5_fill 51 = .ok (.iload_n 3, 1) := by decide +kernel
theorem dX5_fill_52 : decode cX5_fill 52 = .ok (.iload_n 2, 1) := by decide +kernel
theorem dX5_fill_53 : decode cX5_fill 53 = .ok (.if_icmp .ge 21, 3) := by decide +kernel
theorem dX5_fill_56 : decode cX5_fill 56 = .ok (.aload_n 0, 1) := by decide +kernel
theorem dX5_fill_57 : decode cX5_fill 57 = .ok (.getfield 19, 3) := by decide +kernel
theorem dX5_fill_60 : decode cX5_fill 60 = .ok (.aload_n 0, 1) := by decide +kernel
theorem dX5_fill_61 : decode cX5_fill 61 = .ok (.getfield 78, 3) := by decide +kernel
theorem dX5_fill_64 : decode cX5_fill 64 = .ok (.iload_n 3, 1) := by decide +kernel
theorem dX5_fill_65 : decode cX5_fill 65 = .ok (.iadd, 1) := by decide +kernel
theorem dX5_fill_66 : decode cX5_fill 66 = .ok (.iload_n 1, 1) := by decide +kernel
theorem dX5_fill_67 : decode cX5_fill 67 = .ok (.iastore, 1) := by decide +kernel
theorem dX5_fill_68 : decode cX5_fill 68 = .ok (.iinc 3 1, 3) := by decide +kernel
theorem dX5_fill_71 : decode cX5_fill 71 = .ok (.goto (-20), 3) := by decide +kernel
theorem dX5_fill_74 : decode cX5_fill 74 = .ok (.aload_n 0, 1) := by decide +kernel
theorem dX5_fill_75 : decode cX5_fill 75 = .ok (.dup, 1) := by decide +kernel
theorem dX5_fill_76 : decode cX5_fill 76 = .ok (.getfield 78, 3) := by decide +kernel
theorem dX5_fill_79 : decode cX5_fill 79 = .ok (.iload_n 2, 1) := by decide +kernel
theorem dX5_fill_80 : decode cX5_fill 80 = .ok (.iadd, 1) := by decide +kernel
theorem dX5_fill_81 : decode cX5_fill 81 = .ok (.putfield 78, 3) := by decide +kernel
theorem dX5_fill_84 : decode cX5_fill 84 = .ok (.aload_n 0, 1) := by decide +kernel
theorem dX5_fill_85 : decode cX5_fill 85 = .ok (.getfield 78, 3) := by decide +kernel
theorem dX5_fill_88 : decode cX5_fill 88 = .ok (.ireturn, 1) := by decide +kernel
set_option maxRecDepth 20000 in
theorem ggX5_cut_X5_isIn : GoodIn wsX5_cut wsX5_isIn := goodIn_r _ [6] (by decide +kernel) (by decide +kernel)
set_option maxRecDepth 20000 in
theorem gX5_cut_X5_isIn : GoodIn wsX5_cut (va_wsS RX5 56 yX5_isIn wsX5_isIn) := goodIn_app (goodIn_of _ (by decide +kernel)) ggX5_cut_X5_isIn
set_option maxRecDepth 20000 in
theorem ggX5_cut_X5_no : GoodIn wsX5_cut wsX5_no := goodIn_r _ [10, 1, 11, 12, 13, 14, 15, 16, 17, 18, 19, 20, 21, 22, 23, 24, 25, 26, 27, 28, 29, 30, 31, 32] (by decide +kernel) (by decide +kernel)
set_option maxRecDepth 20000 in
theorem gX5_cut_X5_no : GoodIn wsX5_cut (wsV RX5 70 RX5 yX5_no wsX5_no) := goodIn_app (goodIn_of _ (by decide +kernel)) ggX5_cut_X5_no
theorem dX5_cut_0 : decode cX5_cut 0 = .ok (.aload_n 0, 1) := by decide +kernel
theorem dX5_cut_1 : decode cX5_cut 1 = .ok (.iconst 0, 1) := by decide +kernel
theorem dX5_cut_2 : decode cX5_cut 2 = .ok (.putfield 49, 3) := by decide +kernel
theorem dX5_cut_5 : decode cX5_cut 5 = .ok (.iload_n 1, 1) := by decide +kernel
theorem dX5_cut_6 : decode cX5_cut 6 = .ok (.iconst 0, 1) := by decide +kernel
theorem dX5_cut_7 : decode cX5_cut 7 = .ok (.aload_n 0, 1) := by decide +kernel
theorem dX5_cut_8 : decode cX5_cut 8 = .ok (.getfield 78, 3) := by decide +kernel
theorem dX5_cut_11 : decode cX5_cut 11 = .ok (.invokestatic 56, 3) := by decide +kernel
theorem dX5_cut_14 : decode cX5_cut 14 = .ok (.ifCond .ne 9, 3) := by decide +kernel
theorem dX5_cut_17 : decode cX5_cut 17 = .ok (.aload_n 0, 1) := by decide +kernel
theorem dX5_cut_18 : decode cX5_cut 18 = .ok (.iconst 1, 1) := by decide +kernel
theorem dX5_cut_19 : decode cX5_cut 19 = .ok (.invokevirtual 70, 3) := by decide +kernel
theorem dX5_cut_22 : decode cX5_cut 22 = .ok (.ireturn, 1) := by decide +kernel
theorem dX5_cut_23 : decode cX5_cut 23 = .ok (.aload_n 0, 1) := by decide +kernel
theorem dX5_cut_24 : decode cX5_cut 24 = .ok (.dup, 1) := by decide +kernel
theorem dX5_cut_25 : decode cX5_cut 25 = .ok (.getfield 78, 3) := by decide +kernel
theorem dX5_cut_28 : decode cX5_cut 28 = .ok (.iload_n 1, 1) := by decide +kernel
theorem dX5_cut_29 : decode cX5_cut 29 = .ok (.isub, 1) := by decide +kernel
theorem dX5_cut_30 : decode cX5_cut 30 = .ok (.putfield 78, 3) := by decide +kernel
theorem dX5_cut_33 : decode cX5_cut 33 = .ok (.aload_n 0, 1) := by decide +kernel
theorem dX5_cut_34 : decode cX5_cut 34 = .ok (.getfield 78, 3) := by decide +kernel
theorem dX5_cut_37 : decode cX5_cut 37 = .ok (.ireturn, 1) := by decide +kernel
theorem dX5_size_0 : decode cX5_size 0 = .ok (.aload_n 0, 1) := by decide +kernel
theorem dX5_size_1 : decode cX5_size 1 = .ok (.iconst 0, 1) := by decide +kernel
theorem dX5_size_2 : decode cX5_size 2 = .ok (.putfield 49, 3) := by decide +kernel
theorem dX5_size_5 : decode cX5_size 5 = .ok (.aload_n 0, 1) := by decide +kernel
theorem dX5_size_6 : decode cX5_size 6 = .ok (.getfield 78, 3) := by decide +kernel
theorem dX5_size_9 : decode cX5_size 9 = .ok (.ireturn, 1) := by decide +kernel
set_option maxRecDepth 20000 in
theorem ggX5_byteAt_X5_isIn : GoodIn wsX5_byteAt wsX5_isIn := goodIn_r _ [7] (by decide +kernel) (by decide +kernel)
set_option maxRecDepth 20000 in
theorem gX5_byteAt_X5_isIn : GoodIn wsX5_byteAt (va_wsS RX5 56 yX5_isIn wsX5_isIn) := goodIn_app (goodIn_of _ (by decide +kernel)) ggX5_byteAt_X5_isIn
set_option maxRecDepth 20000 in
theorem ggX5_byteAt_X5_no : GoodIn wsX5_byteAt wsX5_no := goodIn_r _ [11, 1, 12, 13, 14, 15, 16, 17, 18, 19, 20, 21, 22, 23, 24, 25, 26, 27, 28, 29, 30, 31, 32, 33] (by decide +kernel) (by decide +kernel)
set_option maxRecDepth 20000 in
theorem gX5_byteAt_X5_no : GoodIn wsX5_byteAt (wsV RX5 70 RX5 yX5_no wsX5_no) := goodIn_app (goodIn_of _ (by decide +kernel)) ggX5_byteAt_X5_no
theorem dX5_byteAt_0 : decode cX5_byteAt 0 = .ok (.aload_n 0, 1) := by decide +kernel
theorem dX5_byteAt_1 : decode cX5_byteAt 1 = .ok (.iconst 0, 1) := by decide +kernel
theorem dX5_byteAt_2 : decode cX5_byteAt 2 = .ok (.putfield 49, 3) := by decide +kernel
theorem dX5_byteAt_5 : decode cX5_byteAt 5 = .ok (.iload_n 1, 1) := by decide +kernel
theorem dX5_byteAt_6 : decode cX5_byteAt 6 = .ok (.iconst 0, 1) := by decide +kernel
theorem dX5_byteAt_7 : decode cX5_byteAt 7 = .ok (.aload_n 0, 1) := by decide +kernel
theorem dX5_byteAt_8 : decode cX5_byteAt 8 = .ok (.getfield 78, 3) := by decide +kernel
theorem dX5_byteAt_11 : decode cX5_byteAt 11 = .ok (.iconst 1, 1) := by decide +kernel
theorem dX5_byteAt_12 : decode cX5_byteAt 12 = .ok (.isub, 1) := by decide +kernel
theorem dX5_byteAt_13 : decode cX5_byteAt 13 = .ok (.invokestatic 56, 3) := by decide +kernel
theorem dX5_byteAt_16 : decode cX5_byteAt 16 = .ok (.ifCond .eq 12, 3) := by decide +kernel
theorem dX5_byteAt_19 : decode cX5_byteAt 19 = .ok (.aload_n 0, 1) := by decide +kernel
theorem dX5_byteAt_20 : decode cX5_byteAt 20 = .ok (.getfield 19, 3) := by decide +kernel
theorem dX5_byteAt_23 : decode cX5_byteAt 23 = .ok (.iload_n 1, 1) := by decide +kernel
theorem dX5_byteAt_24 : decode cX5_byteAt 24 = .ok (.iaload, 1) := by decide +kernel
theorem dX5_byteAt_25 : decode cX5_byteAt 25 = .ok (.goto 8, 3) := by decide +kernel
theorem dX5_byteAt_28 : decode cX5_byteAt 28 = .ok (.aload_n 0, 1) := by decide +kernel
theorem dX5_byteAt_29 : decode cX5_byteAt 29 = .ok (.iconst 1, 1) := by decide +kernel
theorem dX5_byteAt_30 : decode cX5_byteAt 30 = .ok (.invokevirtual 70, 3) := by decide +kernel
theorem dX5_byteAt_33 : decode cX5_byteAt 33 = .ok (.ireturn, 1) := by decide +kernel
set_option maxRecDepth 20000 in
theorem ggX5_reset_X5_clear : GoodIn wsX5_reset wsX5_clear := goodIn_r _ [7, 8, 9, 10, 11, 12, 13, 2, 14, 15, 16, 17, 18, 19, 20, 21, 22, 23, 24, 25, 26, 27, 28, 29, 30, 31, 32, 33, 34, 35, 36] (by decide +kernel) (by decide +kernel)
set_option maxRecDepth 20000 in
theorem gX5_reset_X5_clear : GoodIn wsX5_reset (wsV RX5 46 RX5 yX5_clear wsX5_clear) := goodIn_app (goodIn_of _ (by decide +kernel)) ggX5_reset_X5_clear
theorem dX5_reset_0 : decode cX5_reset 0 = .ok (.aload_n 0, 1) := by decide +kernel
theorem dX5_reset_1 : decode cX5_reset 1 = .ok (.iconst 0, 1) := by decide +kernel
theorem dX5_reset_2 : decode cX5_reset 2 = .ok (.putfield 49, 3) := by decide +kernel
theorem dX5_reset_5 : decode cX5_reset 5 = .ok (.aload_n 0, 1) := by decide +kernel
theorem dX5_reset_6 : decode cX5_reset 6 = .ok (.getfield 63, 3) := by decide +kernel
theorem dX5_reset_9 : decode cX5_reset 9 = .ok (.istore_n 1, 1) := by decide +kernel
theorem dX5_reset_10 : decode cX5_reset 10 = .ok (.aload_n 0, 1) := by decide +kernel
theorem dX5_reset_11 : decode cX5_reset 11 = .ok (.invokevirtual 46, 3) := by decide +kernel
theorem dX5_reset_14 : decode cX5_reset 14 = .ok (.iload_n 1, 1) := by decide +kernel
theorem dX5_reset_15 : decode cX5_reset 15 = .ok (.ireturn, 1) := by decide +kernel
theorem dX5_phase_0 : decode cX5_phase 0 = .ok (.iconst 0, 1) := by decide +kernel
theorem dX5_phase_1 : decode cX5_phase 1 = .ok (.istore_n 1, 1) := by decide +kernel
theorem dX5_phase_2 : decode cX5_phase 2 = .ok (.aload_n 0, 1) := by decide +kernel
theorem dX5_phase_3 : decode cX5_phase 3 = .ok (.getfield 60, 3) := by decide +kernel
theorem dX5_phase_6 : decode cX5_phase 6 = .ok (.iload_n 1, 1) := by decide +kernel
theorem dX5_phase_7 : decode cX5_phase 7 = .ok (.ishr, 1) := by decide +kernel
theorem dX5_phase_8 : decode cX5_phase 8 = .ok (.iconst 1, 1) := by decide +kernel
theorem dX5_phase_9 : decode cX5_phase 9 = .ok (.if_icmp .le 9, 3) := by decide +kernel
theorem dX5_phase_12 : decode cX5_phase 12 = .ok (.iinc 1 1, 3) := by decide +kernel
theorem dX5_phase_15 : decode cX5_phase 15 = .ok (.goto (-13), 3) := by decide +kernel
theorem dX5_phase_18 : decode cX5_phase 18 = .ok (.iload_n 1, 1) := by decide +kernel
theorem dX5_phase_19 : decode cX5_phase 19 = .ok (.ireturn, 1) := by decide +kernel
