theorem qO_0 : qO 0 9 = true := by decide
theorem qR_0_0 : qR 0 9 0 = some 1 := by decide
theorem qRd_0_0 : qRd 0 9 0 = 1 := by decide
theorem qR_0_1 : qR 0 9 1 = some 3 := by decide
theorem qRd_0_1 : qRd 0 9 1 = 3 := by decide
theorem qR_0_2 : qR 0 9 2 = some 4 := by decide
theorem qRd_0_2 : qRd 0 9 2 = 4 := by decide
theorem qR_0_3 : qR 0 9 3 = some 5 := by decide
theorem qRd_0_3 : qRd 0 9 3 = 5 := by decide
theorem qR_0_4 : qR 0 9 4 = some 6 := by decide
theorem qRd_0_4 : qRd 0 9 4 = 6 := by decide
theorem qR_0_5 : qR 0 9 5 = some 7 := by decide
theorem qRd_0_5 : qRd 0 9 5 = 7 := by decide
theorem qR_0_6 : qR 0 9 6 = some 11 := by decide
theorem qRd_0_6 : qRd 0 9 6 = 11 := by decide
theorem qR_0_7 : qR 0 9 7 = some 14 := by decide
theorem qRd_0_7 : qRd 0 9 7 = 14 := by decide
theorem qR_0_8 : qR 0 9 8 = some 16 := by decide
theorem qRd_0_8 : qRd 0 9 8 = 16 := by decide
theorem qI_0_9 : qI 0 9 9 = true := by decide
theorem qI_0_10 : qI 0 9 10 = true := by decide
theorem qO_1 : qO 1 8 = true := by decide
theorem qR_1_0 : qR 1 8 0 = some 2 := by decide
theorem qRd_1_0 : qRd 1 8 0 = 2 := by decide
theorem qI_1_1 : qI 1 8 1 = true := by decide
theorem qI_1_2 : qI 1 8 2 = true := by decide
theorem qA_2 : qA 2 2 = some 120 := by decide
theorem qAd_2 : qAd 2 2 = 120 := by decide
theorem qL_2 : qL 2 = some 120 := by decide
theorem qLd_2 : qLd 2 = 120 := by decide
theorem qQ_3 : qQ 3 = some 6 := by decide
theorem qQd_3 : qQd 3 = 6 := by decide
theorem qL_3 : qL 3 = some 6 := by decide
theorem qLd_3 : qLd 3 = 6 := by decide
theorem qQ_4 : qQ 4 = some 4 := by decide
theorem qQd_4 : qQd 4 = 4 := by decide
theorem qL_4 : qL 4 = some 4 := by decide
theorem qLd_4 : qLd 4 = 4 := by decide
theorem qQ_5 : qQ 5 = some 6 := by decide
theorem qQd_5 : qQd 5 = 6 := by decide
theorem qL_5 : qL 5 = some 6 := by decide
theorem qLd_5 : qLd 5 = 6 := by decide
theorem qO_6 : qO 6 5 = true := by decide
theorem qI_6_0 : qI 6 5 0 = true := by decide
theorem qI_6_1 : qI 6 5 1 = true := by decide
theorem qI_6_2 : qI 6 5 2 = true := by decide
theorem qI_6_3 : qI 6 5 3 = true := by decide
theorem qI_6_4 : qI 6 5 4 = true := by decide
theorem qM_6_5 : qM 6 5 5 = true := by decide
theorem qI_6_6 : qI 6 5 6 = true := by decide
theorem qI_6_7 : qI 6 5 7 = true := by decide
theorem qI_6_8 : qI 6 5 8 = true := by decide
theorem qI_6_9 : qI 6 5 9 = true := by decide
theorem qI_6_10 : qI 6 5 10 = true := by decide
theorem qI_6_11 : qI 6 5 11 = true := by decide
theorem qI_6_12 : qI 6 5 12 = true := by decide
theorem qI_6_13 : qI 6 5 13 = true := by decide
theorem qI_6_14 : qI 6 5 14 = true := by decide
theorem qI_6_15 : qI 6 5 15 = true := by decide
theorem qI_6_16 : qI 6 5 16 = true := by decide
theorem qO_7 : qO 7 4 = true := by decide
theorem qR_7_0 : qR 7 4 0 = some 8 := by decide
theorem qRd_7_0 : qRd 7 4 0 = 8 := by decide
theorem qR_7_1 : qR 7 4 1 = some 9 := by decide
theorem qRd_7_1 : qRd 7 4 1 = 9 := by decide
theorem qR_7_2 : qR 7 4 2 = some 10 := by decide
theorem qRd_7_2 : qRd 7 4 2 = 10 := by decide
theorem qI_7_3 : qI 7 4 3 = true := by decide
theorem qI_7_4 : qI 7 4 4 = true := by decide
theorem qI_7_5 : qI 7 4 5 = true := by decide
theorem qI_7_6 : qI 7 4 6 = true := by decide
theorem qI_7_7 : qI 7 4 7 = true := by decide
theorem qI_7_8 : qI 7 4 8 = true := by decide
theorem qA_8 : qA 8 0 = some 401 := by decide
theorem qAd_8 : qAd 8 0 = 401 := by decide
theorem qL_8 : qL 8 = some 401 := by decide
theorem qLd_8 : qLd 8 = 401 := by decide
theorem qA_9 : qA 9 0 = some 401 := by decide
theorem qAd_9 : qAd 9 0 = 401 := by decide
theorem qL_9 : qL 9 = some 401 := by decide
theorem qLd_9 : qLd 9 = 401 := by decide
theorem qA_10 : qA 10 0 = some 401 := by decide
theorem qAd_10 : qAd 10 0 = 401 := by decide
theorem qL_10 : qL 10 = some 401 := by decide
theorem qLd_10 : qLd 10 = 401 := by decide
theorem qO_11 : qO 11 2 = true := by decide
theorem qR_11_0 : qR 11 2 0 = some 12 := by decide
theorem qRd_11_0 : qRd 11 2 0 = 12 := by decide
theorem qR_11_1 : qR 11 2 1 = some 13 := by decide
theorem qRd_11_1 : qRd 11 2 1 = 13 := by decide
theorem qI_11_2 : qI 11 2 2 = true := by decide
theorem qA_12 : qA 12 0 = some 40 := by decide
theorem qAd_12 : qAd 12 0 = 40 := by decide
theorem qL_12 : qL 12 = some 40 := by decide
theorem qLd_12 : qLd 12 = 40 := by decide
theorem qA_13 : qA 13 0 = some 40 := by decide
theorem qAd_13 : qAd 13 0 = 40 := by decide
theorem qL_13 : qL 13 = some 40 := by decide
theorem qLd_13 : qLd 13 = 40 := by decide
theorem qO_14 : qO 14 1 = true := by decide
theorem qR_14_0 : qR 14 1 0 = some 15 := by decide
theorem qRd_14_0 : qRd 14 1 0 = 15 := by decide
theorem qI_14_1 : qI 14 1 1 = true := by decide
theorem qI_14_2 : qI 14 1 2 = true := by decide
theorem qA_15 : qA 15 0 = some 160 := by decide
theorem qAd_15 : qAd 15 0 = 160 := by decide
theorem qL_15 : qL 15 = some 160 := by decide
theorem qLd_15 : qLd 15 = 160 := by decide
theorem qO_16 : qO 16 0 = true := by decide
theorem qR_16_0 : qR 16 0 0 = some 17 := by decide
theorem qRd_16_0 : qRd 16 0 0 = 17 := by decide
theorem qR_16_1 : qR 16 0 1 = some 18 := by decide
theorem qRd_16_1 : qRd 16 0 1 = 18 := by decide
theorem qI_16_2 : qI 16 0 2 = true := by decide
theorem qI_16_3 : qI 16 0 3 = true := by decide
theorem qI_16_4 : qI 16 0 4 = true := by decide
theorem qI_16_5 : qI 16 0 5 = true := by decide
theorem qA_17 : qA 17 0 = some 50 := by decide
theorem qAd_17 : qAd 17 0 = 50 := by decide
theorem qL_17 : qL 17 = some 50 := by decide
theorem qLd_17 : qLd 17 = 50 := by decide
theorem qA_18 : qA 18 0 = some 24 := by decide
theorem qAd_18 : qAd 18 0 = 24 := by decide
theorem qL_18 : qL 18 = some 24 := by decide
theorem qLd_18 : qLd 18 = 24 := by decide
theorem qO_19 : qO 19 7 = true := by decide
theorem qR_19_0 : qR 19 7 0 = some 20 := by decide
theorem qRd_19_0 : qRd 19 7 0 = 20 := by decide
theorem qR_19_1 : qR 19 7 1 = some 21 := by decide
theorem qRd_19_1 : qRd 19 7 1 = 21 := by decide
theorem qR_19_2 : qR 19 7 2 = some 22 := by decide
theorem qRd_19_2 : qRd 19 7 2 = 22 := by decide
theorem qR_19_3 : qR 19 7 3 = some 23 := by decide
theorem qRd_19_3 : qRd 19 7 3 = 23 := by decide
theorem qI_19_4 : qI 19 7 4 = true := by decide
theorem qI_19_5 : qI 19 7 5 = true := by decide
theorem qI_19_6 : qI 19 7 6 = true := by decide
theorem qI_19_7 : qI 19 7 7 = true := by decide
theorem qI_19_8 : qI 19 7 8 = true := by decide
theorem qI_19_9 : qI 19 7 9 = true := by decide
theorem qI_19_10 : qI 19 7 10 = true := by decide
theorem qA_20 : qA 20 0 = some 12 := by decide
theorem qAd_20 : qAd 20 0 = 12 := by decide
theorem qL_20 : qL 20 = some 12 := by decide
theorem qLd_20 : qLd 20 = 12 := by decide
theorem qA_21 : qA 21 0 = some 12 := by decide
theorem qAd_21 : qAd 21 0 = 12 := by decide
theorem qL_21 : qL 21 = some 12 := by decide
theorem qLd_21 : qLd 21 = 12 := by decide
theorem qA_22 : qA 22 0 = some 12 := by decide
theorem qAd_22 : qAd 22 0 = 12 := by decide
theorem qL_22 : qL 22 = some 12 := by decide
theorem qLd_22 : qLd 22 = 12 := by decide
theorem qA_23 : qA 23 0 = some 4 := by decide
theorem qAd_23 : qAd 23 0 = 4 := by decide
theorem qL_23 : qL 23 = some 4 := by decide
theorem qLd_23 : qLd 23 = 4 := by decide
theorem qO_24 : qO 24 7 = true := by decide
theorem qR_24_0 : qR 24 7 0 = some 25 := by decide
theorem qRd_24_0 : qRd 24 7 0 = 25 := by decide
theorem qR_24_1 : qR 24 7 1 = some 26 := by decide
theorem qRd_24_1 : qRd 24 7 1 = 26 := by decide
theorem qR_24_2 : qR 24 7 2 = some 27 := by decide
theorem qRd_24_2 : qRd 24 7 2 = 27 := by decide
theorem qR_24_3 : qR 24 7 3 = some 28 := by decide
theorem qRd_24_3 : qRd 24 7 3 = 28 := by decide
theorem qI_24_4 : qI 24 7 4 = true := by decide
theorem qI_24_5 : qI 24 7 5 = true := by decide
theorem qI_24_6 : qI 24 7 6 = true := by decide
theorem qI_24_7 : qI 24 7 7 = true := by decide
theorem qI_24_8 : qI 24 7 8 = true := by decide
theorem qI_24_9 : qI 24 7 9 = true := by decide
theorem qI_24_10 : qI 24 7 10 = true := by decide
theorem qA_25 : qA 25 0 = some 12 := by decide
theorem qAd_25 : qAd 25 0 = 12 := by decide
theorem qL_25 : qL 25 = some 12 := by decide
theorem qLd_25 : qLd 25 = 12 := by decide
theorem qA_26 : qA 26 0 = some 12 := by decide
theorem qAd_26 : qAd 26 0 = 12 := by decide
theorem qL_26 : qL 26 = some 12 := by decide
theorem qLd_26 : qLd 26 = 12 := by decide
theorem qA_27 : qA 27 0 = some 12 := by decide
theorem qAd_27 : qAd 27 0 = 12 := by decide
theorem qL_27 : qL 27 = some 12 := by decide
theorem qLd_27 : qLd 27 = 12 := by decide
theorem qA_28 : qA 28 0 = some 4 := by decide
theorem qAd_28 : qAd 28 0 = 4 := by decide
theorem qL_28 : qL 28 = some 4 := by decide
theorem qLd_28 : qLd 28 = 4 := by decide
theorem qO_29 : qO 29 7 = true := by decide
theorem qR_29_0 : qR 29 7 0 = some 30 := by decide
theorem qRd_29_0 : qRd 29 7 0 = 30 := by decide
theorem qR_29_1 : qR 29 7 1 = some 31 := by decide
theorem qRd_29_1 : qRd 29 7 1 = 31 := by decide
theorem qR_29_2 : qR 29 7 2 = some 32 := by decide
theorem qRd_29_2 : qRd 29 7 2 = 32 := by decide
theorem qR_29_3 : qR 29 7 3 = some 33 := by decide
theorem qRd_29_3 : qRd 29 7 3 = 33 := by decide
theorem qI_29_4 : qI 29 7 4 = true := by decide
theorem qI_29_5 : qI 29 7 5 = true := by decide
theorem qI_29_6 : qI 29 7 6 = true := by decide
theorem qI_29_7 : qI 29 7 7 = true := by decide
theorem qI_29_8 : qI 29 7 8 = true := by decide
theorem qI_29_9 : qI 29 7 9 = true := by decide
theorem qI_29_10 : qI 29 7 10 = true := by decide
theorem qA_30 : qA 30 0 = some 12 := by decide
theorem qAd_30 : qAd 30 0 = 12 := by decide
theorem qL_30 : qL 30 = some 12 := by decide
theorem qLd_30 : qLd 30 = 12 := by decide
theorem qA_31 : qA 31 0 = some 12 := by decide
theorem qAd_31 : qAd 31 0 = 12 := by decide
theorem qL_31 : qL 31 = some 12 := by decide
theorem qLd_31 : qLd 31 = 12 := by decide
theorem qA_32 : qA 32 0 = some 12 := by decide
theorem qAd_32 : qAd 32 0 = 12 := by decide
theorem qL_32 : qL 32 = some 12 := by decide
theorem qLd_32 : qLd 32 = 12 := by decide
theorem qA_33 : qA 33 0 = some 4 := by decide
theorem qAd_33 : qAd 33 0 = 4 := by decide
theorem qL_33 : qL 33 = some 4 := by decide
theorem qLd_33 : qLd 33 = 4 := by decide
theorem qO_34 : qO 34 7 = true := by decide
theorem qR_34_0 : qR 34 7 0 = some 35 := by decide
theorem qRd_34_0 : qRd 34 7 0 = 35 := by decide
theorem qR_34_1 : qR 34 7 1 = some 36 := by decide
theorem qRd_34_1 : qRd 34 7 1 = 36 := by decide
theorem qR_34_2 : qR 34 7 2 = some 37 := by decide
theorem qRd_34_2 : qRd 34 7 2 = 37 := by decide
theorem qR_34_3 : qR 34 7 3 = some 38 := by decide
theorem qRd_34_3 : qRd 34 7 3 = 38 := by decide
theorem qI_34_4 : qI 34 7 4 = true := by decide
theorem qI_34_5 : qI 34 7 5 = true := by decide
theorem qI_34_6 : qI 34 7 6 = true := by decide
theorem qI_34_7 : qI 34 7 7 = true := by decide
theorem qI_34_8 : qI 34 7 8 = true := by decide
theorem qI_34_9 : qI 34 7 9 = true := by decide
theorem qI_34_10 : qI 34 7 10 = true := by decide
theorem qA_35 : qA 35 0 = some 12 := by decide
theorem qAd_35 : qAd 35 0 = 12 := by decide
theorem qL_35 : qL 35 = some 12 := by decide
theorem qLd_35 : qLd 35 = 12 := by decide
theorem qA_36 : qA 36 0 = some 12 := by decide
theorem qAd_36 : qAd 36 0 = 12 := by decide
theorem qL_36 : qL 36 = some 12 := by decide
theorem qLd_36 : qLd 36 = 12 := by decide
theorem qA_37 : qA 37 0 = some 12 := by decide
theorem qAd_37 : qAd 37 0 = 12 := by decide
theorem qL_37 : qL 37 = some 12 := by decide
theorem qLd_37 : qLd 37 = 12 := by decide
theorem qA_38 : qA 38 0 = some 4 := by decide
theorem qAd_38 : qAd 38 0 = 4 := by decide
theorem qL_38 : qL 38 = some 4 := by decide
theorem qLd_38 : qLd 38 = 4 := by decide
theorem qO_39 : qO 39 7 = true := by decide
theorem qR_39_0 : qR 39 7 0 = some 40 := by decide
theorem qRd_39_0 : qRd 39 7 0 = 40 := by decide
theorem qR_39_1 : qR 39 7 1 = some 41 := by decide
theorem qRd_39_1 : qRd 39 7 1 = 41 := by decide
theorem qR_39_2 : qR 39 7 2 = some 42 := by decide
theorem qRd_39_2 : qRd 39 7 2 = 42 := by decide
theorem qR_39_3 : qR 39 7 3 = some 43 := by decide
theorem qRd_39_3 : qRd 39 7 3 = 43 := by decide
theorem qI_39_4 : qI 39 7 4 = true := by decide
theorem qI_39_5 : qI 39 7 5 = true := by decide
theorem qI_39_6 : qI 39 7 6 = true := by decide
theorem qI_39_7 : qI 39 7 7 = true := by decide
theorem qI_39_8 : qI 39 7 8 = true := by decide
theorem qI_39_9 : qI 39 7 9 = true := by decide
theorem qI_39_10 : qI 39 7 10 = true := by decide
theorem qA_40 : qA 40 0 = some 12 := by decide
theorem qAd_40 : qAd 40 0 = 12 := by decide
theorem qL_40 : qL 40 = some 12 := by decide
theorem qLd_40 : qLd 40 = 12 := by decide
theorem qA_41 : qA 41 0 = some 12 := by decide
theorem qAd_41 : qAd 41 0 = 12 := by decide
theorem qL_41 : qL 41 = some 12 := by decide
theorem qLd_41 : qLd 41 = 12 := by decide
theorem qA_42 : qA 42 0 = some 12 := by decide
theorem qAd_42 : qAd 42 0 = 12 := by decide
theorem qL_42 : qL 42 = some 12 := by decide
theorem qLd_42 : qLd 42 = 12 := by decide
theorem qA_43 : qA 43 0 = some 4 := by decide
theorem qAd_43 : qAd 43 0 = 4 := by decide
theorem qL_43 : qL 43 = some 4 := by decide
theorem qLd_43 : qLd 43 = 4 := by decide
theorem qO_44 : qO 44 7 = true := by decide
theorem qR_44_0 : qR 44 7 0 = some 45 := by decide
theorem qRd_44_0 : qRd 44 7 0 = 45 := by decide
theorem qR_44_1 : qR 44 7 1 = some 46 := by decide
theorem qRd_44_1 : qRd 44 7 1 = 46 := by decide
theorem qR_44_2 : qR 44 7 2 = some 47 := by decide
theorem qRd_44_2 : qRd 44 7 2 = 47 := by decide
theorem qR_44_3 : qR 44 7 3 = some 48 := by decide
theorem qRd_44_3 : qRd 44 7 3 = 48 := by decide
theorem qI_44_4 : qI 44 7 4 = true := by decide
theorem qI_44_5 : qI 44 7 5 = true := by decide
theorem qI_44_6 : qI 44 7 6 = true := by decide
theorem qI_44_7 : qI 44 7 7 = true := by decide
theorem qI_44_8 : qI 44 7 8 = true := by decide
theorem qI_44_9 : qI 44 7 9 = true := by decide
theorem qI_44_10 : qI 44 7 10 = true := by decide
theorem qA_45 : qA 45 0 = some 12 := by decide
theorem qAd_45 : qAd 45 0 = 12 := by decide
theorem qL_45 : qL 45 = some 12 := by decide
theorem qLd_45 : qLd 45 = 12 := by decide
theorem qA_46 : qA 46 0 = some 12 := by decide
theorem qAd_46 : qAd 46 0 = 12 := by decide
theorem qL_46 : qL 46 = some 12 := by decide
theorem qLd_46 : qLd 46 = 12 := by decide
theorem qA_47 : qA 47 0 = some 12 := by decide
theorem qAd_47 : qAd 47 0 = 12 := by decide
theorem qL_47 : qL 47 = some 12 := by decide
theorem qLd_47 : qLd 47 = 12 := by decide
theorem qA_48 : qA 48 0 = some 4 := by decide
theorem qAd_48 : qAd 48 0 = 4 := by decide
theorem qL_48 : qL 48 = some 4 := by decide
theorem qLd_48 : qLd 48 = 4 := by decide
theorem qO_49 : qO 49 3 = true := by decide
theorem qR_49_0 : qR 49 3 0 = some 50 := by decide
theorem qRd_49_0 : qRd 49 3 0 = 50 := by decide
theorem qR_49_1 : qR 49 3 1 = some 51 := by decide
theorem qRd_49_1 : qRd 49 3 1 = 51 := by decide
theorem qR_49_2 : qR 49 3 2 = some 52 := by decide
theorem qRd_49_2 : qRd 49 3 2 = 52 := by decide
theorem qR_49_3 : qR 49 3 3 = some 53 := by decide
theorem qRd_49_3 : qRd 49 3 3 = 53 := by decide
theorem qI_49_4 : qI 49 3 4 = true := by decide
theorem qI_49_5 : qI 49 3 5 = true := by decide
theorem qI_49_6 : qI 49 3 6 = true := by decide
theorem qI_49_7 : qI 49 3 7 = true := by decide
theorem qI_49_8 : qI 49 3 8 = true := by decide
theorem qI_49_9 : qI 49 3 9 = true := by decide
theorem qI_49_10 : qI 49 3 10 = true := by decide
theorem qA_50 : qA 50 0 = some 121 := by decide
theorem qAd_50 : qAd 50 0 = 121 := by decide
theorem qL_50 : qL 50 = some 121 := by decide
theorem qLd_50 : qLd 50 = 121 := by decide
theorem qA_51 : qA 51 0 = some 121 := by decide
theorem qAd_51 : qAd 51 0 = 121 := by decide
theorem qL_51 : qL 51 = some 121 := by decide
theorem qLd_51 : qLd 51 = 121 := by decide
theorem qA_52 : qA 52 0 = some 121 := by decide
theorem qAd_52 : qAd 52 0 = 121 := by decide
theorem qL_52 : qL 52 = some 121 := by decide
theorem qLd_52 : qLd 52 = 121 := by decide
theorem qA_53 : qA 53 0 = some 121 := by decide
theorem qAd_53 : qAd 53 0 = 121 := by decide
theorem qL_53 : qL 53 = some 121 := by decide
theorem qLd_53 : qLd 53 = 121 := by decide
theorem qO_54 : qO 54 3 = true := by decide
theorem qR_54_0 : qR 54 3 0 = some 55 := by decide
theorem qRd_54_0 : qRd 54 3 0 = 55 := by decide
theorem qR_54_1 : qR 54 3 1 = some 56 := by decide
theorem qRd_54_1 : qRd 54 3 1 = 56 := by decide
theorem qR_54_2 : qR 54 3 2 = some 57 := by decide
theorem qRd_54_2 : qRd 54 3 2 = 57 := by decide
theorem qR_54_3 : qR 54 3 3 = some 58 := by decide
theorem qRd_54_3 : qRd 54 3 3 = 58 := by decide
theorem qI_54_4 : qI 54 3 4 = true := by decide
theorem qI_54_5 : qI 54 3 5 = true := by decide
theorem qI_54_6 : qI 54 3 6 = true := by decide
theorem qI_54_7 : qI 54 3 7 = true := by decide
theorem qI_54_8 : qI 54 3 8 = true := by decide
theorem qI_54_9 : qI 54 3 9 = true := by decide
theorem qI_54_10 : qI 54 3 10 = true := by decide
theorem qA_55 : qA 55 0 = some 121 := by decide
theorem qAd_55 : qAd 55 0 = 121 := by decide
theorem qL_55 : qL 55 = some 121 := by decide
theorem qLd_55 : qLd 55 = 121 := by decide
theorem qA_56 : qA 56 0 = some 121 := by decide
theorem qAd_56 : qAd 56 0 = 121 := by decide
theorem qL_56 : qL 56 = some 121 := by decide
theorem qLd_56 : qLd 56 = 121 := by decide
theorem qA_57 : qA 57 0 = some 121 := by decide
theorem qAd_57 : qAd 57 0 = 121 := by decide
theorem qL_57 : qL 57 = some 121 := by decide
theorem qLd_57 : qLd 57 = 121 := by decide
theorem qA_58 : qA 58 0 = some 121 := by decide
theorem qAd_58 : qAd 58 0 = 121 := by decide
theorem qL_58 : qL 58 = some 121 := by decide
theorem qLd_58 : qLd 58 = 121 := by decide
theorem qO_59 : qO 59 3 = true := by decide
theorem qR_59_0 : qR 59 3 0 = some 60 := by decide
theorem qRd_59_0 : qRd 59 3 0 = 60 := by decide
theorem qR_59_1 : qR 59 3 1 = some 61 := by decide
theorem qRd_59_1 : qRd 59 3 1 = 61 := by decide
theorem qR_59_2 : qR 59 3 2 = some 62 := by decide
theorem qRd_59_2 : qRd 59 3 2 = 62 := by decide
theorem qR_59_3 : qR 59 3 3 = some 63 := by decide
theorem qRd_59_3 : qRd 59 3 3 = 63 := by decide
theorem qI_59_4 : qI 59 3 4 = true := by decide
theorem qI_59_5 : qI 59 3 5 = true := by decide
theorem qI_59_6 : qI 59 3 6 = true := by decide
theorem qI_59_7 : qI 59 3 7 = true := by decide
theorem qI_59_8 : qI 59 3 8 = true := by decide
theorem qI_59_9 : qI 59 3 9 = true := by decide
theorem qI_59_10 : qI 59 3 10 = true := by decide
theorem qA_60 : qA 60 0 = some 121 := by decide
theorem qAd_60 : qAd 60 0 = 121 := by decide
theorem qL_60 : qL 60 = some 121 := by decide
theorem qLd_60 : qLd 60 = 121 := by decide
theorem qA_61 : qA 61 0 = some 121 := by decide
theorem qAd_61 : qAd 61 0 = 121 := by decide
theorem qL_61 : qL 61 = some 121 := by decide
theorem qLd_61 : qLd 61 = 121 := by decide
theorem qA_62 : qA 62 0 = some 121 := by decide
theorem qAd_62 : qAd 62 0 = 121 := by decide
theorem qL_62 : qL 62 = some 121 := by decide
theorem qLd_62 : qLd 62 = 121 := by decide
theorem qA_63 : qA 63 0 = some 121 := by decide
theorem qAd_63 : qAd 63 0 = 121 := by decide
theorem qL_63 : qL 63 = some 121 := by decide
theorem qLd_63 : qLd 63 = 121 := by decide
theorem qO_64 : qO 64 3 = true := by decide
theorem qR_64_0 : qR 64 3 0 = some 65 := by decide
theorem qRd_64_0 : qRd 64 3 0 = 65 := by decide
theorem qR_64_1 : qR 64 3 1 = some 66 := by decide
theorem qRd_64_1 : qRd 64 3 1 = 66 := by decide
theorem qR_64_2 : qR 64 3 2 = some 67 := by decide
theorem qRd_64_2 : qRd 64 3 2 = 67 := by decide
theorem qR_64_3 : qR 64 3 3 = some 68 := by decide
theorem qRd_64_3 : qRd 64 3 3 = 68 := by decide
theorem qI_64_4 : qI 64 3 4 = true := by decide
theorem qI_64_5 : qI 64 3 5 = true := by decide
theorem qI_64_6 : qI 64 3 6 = true := by decide
theorem qI_64_7 : qI 64 3 7 = true := by decide
theorem qI_64_8 : qI 64 3 8 = true := by decide
theorem qI_64_9 : qI 64 3 9 = true := by decide
theorem qI_64_10 : qI 64 3 10 = true := by decide
theorem qA_65 : qA 65 0 = some 121 := by decide
theorem qAd_65 : qAd 65 0 = 121 := by decide
theorem qL_65 : qL 65 = some 121 := by decide
theorem qLd_65 : qLd 65 = 121 := by decide
theorem qA_66 : qA 66 0 = some 121 := by decide
theorem qAd_66 : qAd 66 0 = 121 := by decide
theorem qL_66 : qL 66 = some 121 := by decide
theorem qLd_66 : qLd 66 = 121 := by decide
theorem qA_67 : qA 67 0 = some 121 := by decide
theorem qAd_67 : qAd 67 0 = 121 := by decide
theorem qL_67 : qL 67 = some 121 := by decide
theorem qLd_67 : qLd 67 = 121 := by decide
theorem qA_68 : qA 68 0 = some 121 := by decide
theorem qAd_68 : qAd 68 0 = 121 := by decide
theorem qL_68 : qL 68 = some 121 := by decide
theorem qLd_68 : qLd 68 = 121 := by decide
theorem qO_69 : qO 69 6 = true := by decide
theorem qR_69_0 : qR 69 6 0 = some 70 := by decide
theorem qRd_69_0 : qRd 69 6 0 = 70 := by decide
theorem qI_69_1 : qI 69 6 1 = true := by decide
theorem qI_69_2 : qI 69 6 2 = true := by decide
theorem qI_69_3 : qI 69 6 3 = true := by decide
theorem qJ_70 : qJ 70 = some 60 := by decide
theorem qJd_70 : qJd 70 = 60 := by decide
theorem qL_70 : qL 70 = some 60 := by decide
theorem qLd_70 : qLd 70 = 60 := by decide
theorem qO_71 : qO 71 6 = true := by decide
theorem qR_71_0 : qR 71 6 0 = some 72 := by decide
theorem qRd_71_0 : qRd 71 6 0 = 72 := by decide
theorem qI_71_1 : qI 71 6 1 = true := by decide
theorem qI_71_2 : qI 71 6 2 = true := by decide
theorem qI_71_3 : qI 71 6 3 = true := by decide
theorem qJ_72 : qJ 72 = some 60 := by decide
theorem qJd_72 : qJd 72 = 60 := by decide
theorem qL_72 : qL 72 = some 60 := by decide
theorem qLd_72 : qLd 72 = 60 := by decide
theorem qO_73 : qO 73 6 = true := by decide
theorem qR_73_0 : qR 73 6 0 = some 74 := by decide
theorem qRd_73_0 : qRd 73 6 0 = 74 := by decide
theorem qI_73_1 : qI 73 6 1 = true := by decide
theorem qI_73_2 : qI 73 6 2 = true := by decide
theorem qI_73_3 : qI 73 6 3 = true := by decide
theorem qJ_74 : qJ 74 = some 60 := by decide
theorem qJd_74 : qJd 74 = 60 := by decide
theorem qL_74 : qL 74 = some 60 := by decide
theorem qLd_74 : qLd 74 = 60 := by decide
theorem qO_75 : qO 75 6 = true := by decide
theorem qR_75_0 : qR 75 6 0 = some 76 := by decide
theorem qRd_75_0 : qRd 75 6 0 = 76 := by decide
theorem qI_75_1 : qI 75 6 1 = true := by decide
theorem qI_75_2 : qI 75 6 2 = true := by decide
theorem qI_75_3 : qI 75 6 3 = true := by decide
theorem qJ_76 : qJ 76 = some 60 := by decide
theorem qJd_76 : qJd 76 = 60 := by decide
theorem qL_76 : qL 76 = some 60 := by decide
theorem qLd_76 : qLd 76 = 60 := by decide
theorem qO_77 : qO 77 6 = true := by decide
theorem qR_77_0 : qR 77 6 0 = some 78 := by decide
theorem qRd_77_0 : qRd 77 6 0 = 78 := by decide
theorem qI_77_1 : qI 77 6 1 = true := by decide
theorem qI_77_2 : qI 77 6 2 = true := by decide
theorem qI_77_3 : qI 77 6 3 = true := by decide
theorem qJ_78 : qJ 78 = some 60 := by decide
theorem qJd_78 : qJd 78 = 60 := by decide
theorem qL_78 : qL 78 = some 60 := by decide
theorem qLd_78 : qLd 78 = 60 := by decide
theorem qO_79 : qO 79 6 = true := by decide
theorem qR_79_0 : qR 79 6 0 = some 80 := by decide
theorem qRd_79_0 : qRd 79 6 0 = 80 := by decide
theorem qI_79_1 : qI 79 6 1 = true := by decide
theorem qI_79_2 : qI 79 6 2 = true := by decide
theorem qI_79_3 : qI 79 6 3 = true := by decide
theorem qJ_80 : qJ 80 = some 60 := by decide
theorem qJd_80 : qJd 80 = 60 := by decide
theorem qL_80 : qL 80 = some 60 := by decide
theorem qLd_80 : qLd 80 = 60 := by decide
theorem qO_81 : qO 81 10 = true := by decide
theorem qI_81_0 : qI 81 10 0 = true := by decide
theorem qR_81_1 : qR 81 10 1 = some 82 := by decide
theorem qRd_81_1 : qRd 81 10 1 = 82 := by decide
theorem qI_81_2 : qI 81 10 2 = true := by decide
theorem qI_81_3 : qI 81 10 3 = true := by decide
theorem qR_81_4 : qR 81 10 4 = some 83 := by decide
theorem qRd_81_4 : qRd 81 10 4 = 83 := by decide
theorem qR_81_5 : qR 81 10 5 = some 84 := by decide
theorem qRd_81_5 : qRd 81 10 5 = 84 := by decide
theorem qR_81_6 : qR 81 10 6 = some 85 := by decide
theorem qRd_81_6 : qRd 81 10 6 = 85 := by decide
theorem qR_81_7 : qR 81 10 7 = some 86 := by decide
theorem qRd_81_7 : qRd 81 10 7 = 86 := by decide
theorem qR_81_8 : qR 81 10 8 = some 87 := by decide
theorem qRd_81_8 : qRd 81 10 8 = 87 := by decide
theorem qI_81_9 : qI 81 10 9 = true := by decide
theorem qI_81_10 : qI 81 10 10 = true := by decide
theorem qI_81_11 : qI 81 10 11 = true := by decide
theorem qI_81_12 : qI 81 10 12 = true := by decide
theorem qI_81_13 : qI 81 10 13 = true := by decide
theorem qR_81_14 : qR 81 10 14 = some 88 := by decide
theorem qRd_81_14 : qRd 81 10 14 = 88 := by decide
theorem qR_81_15 : qR 81 10 15 = some 89 := by decide
theorem qRd_81_15 : qRd 81 10 15 = 89 := by decide
theorem qR_81_16 : qR 81 10 16 = some 90 := by decide
theorem qRd_81_16 : qRd 81 10 16 = 90 := by decide
theorem qR_81_17 : qR 81 10 17 = some 91 := by decide
theorem qRd_81_17 : qRd 81 10 17 = 91 := by decide
theorem qI_81_18 : qI 81 10 18 = true := by decide
theorem qI_81_19 : qI 81 10 19 = true := by decide
theorem qI_81_20 : qI 81 10 20 = true := by decide
theorem qI_81_21 : qI 81 10 21 = true := by decide
theorem qR_81_22 : qR 81 10 22 = some 92 := by decide
theorem qRd_81_22 : qRd 81 10 22 = 92 := by decide
theorem qR_81_23 : qR 81 10 23 = some 93 := by decide
theorem qRd_81_23 : qRd 81 10 23 = 93 := by decide
theorem qR_81_24 : qR 81 10 24 = some 94 := by decide
theorem qRd_81_24 : qRd 81 10 24 = 94 := by decide
theorem qR_81_25 : qR 81 10 25 = some 95 := by decide
theorem qRd_81_25 : qRd 81 10 25 = 95 := by decide
theorem qR_81_26 : qR 81 10 26 = some 96 := by decide
theorem qRd_81_26 : qRd 81 10 26 = 96 := by decide
theorem qR_81_27 : qR 81 10 27 = some 97 := by decide
theorem qRd_81_27 : qRd 81 10 27 = 97 := by decide
theorem qR_81_28 : qR 81 10 28 = some 98 := by decide
theorem qRd_81_28 : qRd 81 10 28 = 98 := by decide
theorem qI_81_29 : qI 81 10 29 = true := by decide
theorem qI_81_30 : qI 81 10 30 = true := by decide
theorem qI_81_31 : qI 81 10 31 = true := by decide
theorem qI_81_32 : qI 81 10 32 = true := by decide
theorem qI_81_33 : qI 81 10 33 = true := by decide
theorem qI_81_34 : qI 81 10 34 = true := by decide
theorem qI_81_35 : qI 81 10 35 = true := by decide
theorem qR_81_36 : qR 81 10 36 = some 99 := by decide
theorem qRd_81_36 : qRd 81 10 36 = 99 := by decide
theorem qR_81_37 : qR 81 10 37 = some 100 := by decide
theorem qRd_81_37 : qRd 81 10 37 = 100 := by decide
theorem qR_81_38 : qR 81 10 38 = some 101 := by decide
theorem qRd_81_38 : qRd 81 10 38 = 101 := by decide
theorem qI_81_39 : qI 81 10 39 = true := by decide
theorem qI_81_40 : qI 81 10 40 = true := by decide
theorem qI_81_41 : qI 81 10 41 = true := by decide
theorem qI_81_42 : qI 81 10 42 = true := by decide
theorem qI_81_43 : qI 81 10 43 = true := by decide
theorem qI_81_44 : qI 81 10 44 = true := by decide
theorem qI_81_45 : qI 81 10 45 = true := by decide
theorem qI_81_46 : qI 81 10 46 = true := by decide
theorem qI_81_47 : qI 81 10 47 = true := by decide
theorem qR_81_48 : qR 81 10 48 = some 102 := by decide
theorem qRd_81_48 : qRd 81 10 48 = 102 := by decide
theorem qR_81_49 : qR 81 10 49 = some 103 := by decide
theorem qRd_81_49 : qRd 81 10 49 = 103 := by decide
theorem qR_81_50 : qR 81 10 50 = some 104 := by decide
theorem qRd_81_50 : qRd 81 10 50 = 104 := by decide
theorem qI_81_51 : qI 81 10 51 = true := by decide
theorem qR_81_52 : qR 81 10 52 = some 105 := by decide
theorem qRd_81_52 : qRd 81 10 52 = 105 := by decide
theorem qI_81_53 : qI 81 10 53 = true := by decide
theorem qR_81_54 : qR 81 10 54 = some 106 := by decide
theorem qRd_81_54 : qRd 81 10 54 = 106 := by decide
theorem qR_81_55 : qR 81 10 55 = some 107 := by decide
theorem qRd_81_55 : qRd 81 10 55 = 107 := by decide
theorem qR_81_56 : qR 81 10 56 = some 108 := by decide
theorem qRd_81_56 : qRd 81 10 56 = 108 := by decide
theorem qR_81_57 : qR 81 10 57 = some 109 := by decide
theorem qRd_81_57 : qRd 81 10 57 = 109 := by decide
theorem qR_81_58 : qR 81 10 58 = some 110 := by decide
theorem qRd_81_58 : qRd 81 10 58 = 110 := by decide
theorem qA_82 : qA 82 2 = some 120 := by decide
theorem qAd_82 : qAd 82 2 = 120 := by decide
theorem qL_82 : qL 82 = some 120 := by decide
theorem qLd_82 : qLd 82 = 120 := by decide
theorem qA_83 : qA 83 0 = some 7 := by decide
theorem qAd_83 : qAd 83 0 = 7 := by decide
theorem qL_83 : qL 83 = some 7 := by decide
theorem qLd_83 : qLd 83 = 7 := by decide
theorem qA_84 : qA 84 0 = some 84 := by decide
theorem qAd_84 : qAd 84 0 = 84 := by decide
theorem qL_84 : qL 84 = some 84 := by decide
theorem qLd_84 : qLd 84 = 84 := by decide
theorem qA_85 : qA 85 0 = some 84 := by decide
theorem qAd_85 : qAd 85 0 = 84 := by decide
theorem qL_85 : qL 85 = some 84 := by decide
theorem qLd_85 : qLd 85 = 84 := by decide
theorem qA_86 : qA 86 0 = some 84 := by decide
theorem qAd_86 : qAd 86 0 = 84 := by decide
theorem qL_86 : qL 86 = some 84 := by decide
theorem qLd_86 : qLd 86 = 84 := by decide
theorem qA_87 : qA 87 0 = some 28 := by decide
theorem qAd_87 : qAd 87 0 = 28 := by decide
theorem qL_87 : qL 87 = some 28 := by decide
theorem qLd_87 : qLd 87 = 28 := by decide
theorem qA_88 : qA 88 0 = some 40 := by decide
theorem qAd_88 : qAd 88 0 = 40 := by decide
theorem qL_88 : qL 88 = some 40 := by decide
theorem qLd_88 : qLd 88 = 40 := by decide
theorem qA_89 : qA 89 0 = some 40 := by decide
theorem qAd_89 : qAd 89 0 = 40 := by decide
theorem qL_89 : qL 89 = some 40 := by decide
theorem qLd_89 : qLd 89 = 40 := by decide
theorem qA_90 : qA 90 0 = some 40 := by decide
theorem qAd_90 : qAd 90 0 = 40 := by decide
theorem qL_90 : qL 90 = some 40 := by decide
theorem qLd_90 : qLd 90 = 40 := by decide
theorem qA_91 : qA 91 0 = some 40 := by decide
theorem qAd_91 : qAd 91 0 = 40 := by decide
theorem qL_91 : qL 91 = some 40 := by decide
theorem qLd_91 : qLd 91 = 40 := by decide
theorem qA_92 : qA 92 2 = some 650 := by decide
theorem qAd_92 : qAd 92 2 = 650 := by decide
theorem qL_92 : qL 92 = some 650 := by decide
theorem qLd_92 : qLd 92 = 650 := by decide
theorem qA_93 : qA 93 0 = some 650 := by decide
theorem qAd_93 : qAd 93 0 = 650 := by decide
theorem qL_93 : qL 93 = some 650 := by decide
theorem qLd_93 : qLd 93 = 650 := by decide
theorem qA_94 : qA 94 0 = some 5 := by decide
theorem qAd_94 : qAd 94 0 = 5 := by decide
theorem qL_94 : qL 94 = some 5 := by decide
theorem qLd_94 : qLd 94 = 5 := by decide
theorem qA_95 : qA 95 3 = some 305 := by decide
theorem qAd_95 : qAd 95 3 = 305 := by decide
theorem qL_95 : qL 95 = some 305 := by decide
theorem qLd_95 : qLd 95 = 305 := by decide
theorem qA_96 : qA 96 3 = some 305 := by decide
theorem qAd_96 : qAd 96 3 = 305 := by decide
theorem qL_96 : qL 96 = some 305 := by decide
theorem qLd_96 : qLd 96 = 305 := by decide
theorem qA_97 : qA 97 0 = some 6 := by decide
theorem qAd_97 : qAd 97 0 = 6 := by decide
theorem qL_97 : qL 97 = some 6 := by decide
theorem qLd_97 : qLd 97 = 6 := by decide
theorem qA_98 : qA 98 0 = some 130 := by decide
theorem qAd_98 : qAd 98 0 = 130 := by decide
theorem qL_98 : qL 98 = some 130 := by decide
theorem qLd_98 : qLd 98 = 130 := by decide
theorem qA_99 : qA 99 0 = some 401 := by decide
theorem qAd_99 : qAd 99 0 = 401 := by decide
theorem qL_99 : qL 99 = some 401 := by decide
theorem qLd_99 : qLd 99 = 401 := by decide
theorem qA_100 : qA 100 0 = some 401 := by decide
theorem qAd_100 : qAd 100 0 = 401 := by decide
theorem qL_100 : qL 100 = some 401 := by decide
theorem qLd_100 : qLd 100 = 401 := by decide
theorem qA_101 : qA 101 0 = some 401 := by decide
theorem qAd_101 : qAd 101 0 = 401 := by decide
theorem qL_101 : qL 101 = some 401 := by decide
theorem qLd_101 : qLd 101 = 401 := by decide
theorem qA_102 : qA 102 0 = some 40 := by decide
theorem qAd_102 : qAd 102 0 = 40 := by decide
theorem qL_102 : qL 102 = some 40 := by decide
theorem qLd_102 : qLd 102 = 40 := by decide
theorem qA_103 : qA 103 0 = some 40 := by decide
theorem qAd_103 : qAd 103 0 = 40 := by decide
theorem qL_103 : qL 103 = some 40 := by decide
theorem qLd_103 : qLd 103 = 40 := by decide
theorem qJ_104 : qJ 104 = some 41 := by decide
theorem qJd_104 : qJd 104 = 41 := by decide
theorem qL_104 : qL 104 = some 41 := by decide
theorem qLd_104 : qLd 104 = 41 := by decide
theorem qA_105 : qA 105 0 = some 50 := by decide
theorem qAd_105 : qAd 105 0 = 50 := by decide
theorem qL_105 : qL 105 = some 50 := by decide
theorem qLd_105 : qLd 105 = 50 := by decide
theorem qA_106 : qA 106 0 = some 24 := by decide
theorem qAd_106 : qAd 106 0 = 24 := by decide
theorem qL_106 : qL 106 = some 24 := by decide
theorem qLd_106 : qLd 106 = 24 := by decide
theorem qA_107 : qA 107 0 = some 6 := by decide
theorem qAd_107 : qAd 107 0 = 6 := by decide
theorem qL_107 : qL 107 = some 6 := by decide
theorem qLd_107 : qLd 107 = 6 := by decide
theorem qA_108 : qA 108 0 = some 6 := by decide
theorem qAd_108 : qAd 108 0 = 6 := by decide
theorem qL_108 : qL 108 = some 6 := by decide
theorem qLd_108 : qLd 108 = 6 := by decide
theorem qJ_109 : qJ 109 = some 360 := by decide
theorem qJd_109 : qJd 109 = 360 := by decide
theorem qL_109 : qL 109 = some 360 := by decide
theorem qLd_109 : qLd 109 = 360 := by decide
theorem qJ_110 : qJ 110 = some 60 := by decide
theorem qJd_110 : qJd 110 = 60 := by decide
theorem qL_110 : qL 110 = some 60 := by decide
theorem qLd_110 : qLd 110 = 60 := by decide
