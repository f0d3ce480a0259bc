set_option maxRecDepth 1000000 in
theorem ck_288_0 : ckL code 13 false (some .boolean) ((cd_288.drop 0).take 40) 0 = true := by decide +kernel
set_option maxRecDepth 1000000 in
theorem ck_288_1 : ckL code 13 false (some .boolean) ((cd_288.drop 40).take 40) 40 = true := by decide +kernel
set_option maxRecDepth 1000000 in
theorem ck_288_2 : ckL code 13 false (some .boolean) ((cd_288.drop 80).take 40) 80 = true := by decide +kernel
set_option maxRecDepth 1000000 in
theorem ck_288_3 : ckL code 13 false (some .boolean) ((cd_288.drop 120).take 40) 120 = true := by decide +kernel
set_option maxRecDepth 1000000 in
theorem ck_288_4 : ckL code 13 false (some .boolean) ((cd_288.drop 160).take 40) 160 = true := by decide +kernel
set_option maxRecDepth 1000000 in
theorem ck_288_5 : ckL code 13 false (some .boolean) ((cd_288.drop 200).take 40) 200 = true := by decide +kernel
set_option maxRecDepth 1000000 in
theorem ck_288_6 : ckL code 13 false (some .boolean) ((cd_288.drop 240).take 40) 240 = true := by decide +kernel
set_option maxRecDepth 1000000 in
theorem ck_288_7 : ckL code 13 false (some .boolean) ((cd_288.drop 280).take 40) 280 = true := by decide +kernel
set_option maxRecDepth 1000000 in
theorem ck_288_8 : ckL code 13 false (some .boolean) ((cd_288.drop 320).take 40) 320 = true := by decide +kernel
set_option maxRecDepth 1000000 in
theorem ck_288_9 : ckL code 13 false (some .boolean) ((cd_288.drop 360).take 40) 360 = true := by decide +kernel
set_option maxRecDepth 1000000 in
theorem ck_288_10 : ckL code 13 false (some .boolean) ((cd_288.drop 400).take 40) 400 = true := by decide +kernel
set_option maxRecDepth 1000000 in
theorem ck_288_11 : ckL code 13 false (some .boolean) ((cd_288.drop 440).take 40) 440 = true := by decide +kernel
set_option maxRecDepth 1000000 in
theorem ck_288_12 : ckL code 13 false (some .boolean) ((cd_288.drop 480).take 40) 480 = true := by decide +kernel
set_option maxRecDepth 1000000 in
theorem ck_288_13 : ckL code 13 false (some .boolean) ((cd_288.drop 520).take 40) 520 = true := by decide +kernel
set_option maxRecDepth 1000000 in
theorem ck_288_14 : ckL code 13 false (some .boolean) ((cd_288.drop 560).take 40) 560 = true := by decide +kernel
set_option maxRecDepth 1000000 in
theorem ck_288_15 : ckL code 13 false (some .boolean) ((cd_288.drop 600).take 40) 600 = true := by decide +kernel
set_option maxRecDepth 1000000 in
theorem ck_288_16 : ckL code 13 false (some .boolean) ((cd_288.drop 640).take 40) 640 = true := by decide +kernel
set_option maxRecDepth 1000000 in
theorem ck_288_17 : ckL code 13 false (some .boolean) ((cd_288.drop 680).take 40) 680 = true := by decide +kernel
set_option maxRecDepth 1000000 in
theorem ck_288_18 : ckL code 13 false (some .boolean) ((cd_288.drop 720).take 40) 720 = true := by decide +kernel
set_option maxRecDepth 1000000 in
theorem ck_288_19 : ckL code 13 false (some .boolean) ((cd_288.drop 760).take 40) 760 = true := by decide +kernel
set_option maxRecDepth 1000000 in
theorem ck_288_20 : ckL code 13 false (some .boolean) ((cd_288.drop 800).take 40) 800 = true := by decide +kernel
set_option maxRecDepth 1000000 in
theorem ck_288_21 : ckL code 13 false (some .boolean) ((cd_288.drop 840).take 40) 840 = true := by decide +kernel
set_option maxRecDepth 1000000 in
theorem ck_288_22 : ckL code 13 false (some .boolean) ((cd_288.drop 880).take 40) 880 = true := by decide +kernel
set_option maxRecDepth 1000000 in
theorem ck_288_23 : ckL code 13 false (some .boolean) ((cd_288.drop 920).take 40) 920 = true := by decide +kernel
set_option maxRecDepth 1000000 in
theorem ck_288_24 : ckL code 13 false (some .boolean) ((cd_288.drop 960).take 40) 960 = true := by decide +kernel
