theorem d_law_828 : decode b_law 828 = .ok (.iload 4, 2) := by decide +kernel
theorem d_law_830 : decode b_law 830 = .ok (.iconst 2, 1) := by decide +kernel
theorem d_law_831 : decode b_law 831 = .ok (.iadd, 1) := by decide +kernel
theorem d_law_832 : decode b_law 832 = .ok (.iaload, 1) := by decide +kernel
theorem d_law_833 : decode b_law 833 = .ok (.invokevirtual 136, 3) := by decide +kernel
theorem d_law_836 : decode b_law 836 = .ok (.lstore 6, 2) := by decide +kernel
theorem d_law_838 : decode b_law 838 = .ok (.aload_n 2, 1) := by decide +kernel
theorem d_law_839 : decode b_law 839 = .ok (.invokevirtual 94, 3) := by decide +kernel
theorem d_law_842 : decode b_law 842 = .ok (.iload 5, 2) := by decide +kernel
theorem d_law_844 : decode b_law 844 = .ok (.if_icmp .eq 5, 3) := by decide +kernel
theorem d_law_849 : decode b_law 849 = .ok (.iload 5, 2) := by decide +kernel
theorem d_law_851 : decode b_law 851 = .ok (.ifCond .ne 14, 3) := by decide +kernel
theorem d_law_865 : decode b_law 865 = .ok (.goto 416, 3) := by decide +kernel
theorem d_law_868 : decode b_law 868 = .ok (.aload_n 1, 1) := by decide +kernel
theorem d_law_869 : decode b_law 869 = .ok (.aload_n 0, 1) := by decide +kernel
theorem d_law_870 : decode b_law 870 = .ok (.iload 4, 2) := by decide +kernel
theorem d_law_872 : decode b_law 872 = .ok (.iconst 1, 1) := by decide +kernel
theorem d_law_873 : decode b_law 873 = .ok (.iadd, 1) := by decide +kernel
theorem d_law_874 : decode b_law 874 = .ok (.iaload, 1) := by decide +kernel
theorem d_law_875 : decode b_law 875 = .ok (.aload_n 0, 1) := by decide +kernel
theorem d_law_876 : decode b_law 876 = .ok (.iload 4, 2) := by decide +kernel
theorem d_law_878 : decode b_law 878 = .ok (.iconst 2, 1) := by decide +kernel
theorem d_law_879 : decode b_law 879 = .ok (.iadd, 1) := by decide +kernel
theorem d_law_880 : decode b_law 880 = .ok (.iaload, 1) := by decide +kernel
theorem d_law_881 : decode b_law 881 = .ok (.aload_n 3, 1) := by decide +kernel
theorem d_law_882 : decode b_law 882 = .ok (.invokestatic 137, 3) := by decide +kernel
theorem d_law_885 : decode b_law 885 = .ok (.istore 5, 2) := by decide +kernel
theorem d_law_887 : decode b_law 887 = .ok (.aload_n 2, 1) := by decide +kernel
theorem d_law_888 : decode b_law 888 = .ok (.aload_n 0, 1) := by decide +kernel
theorem d_law_889 : decode b_law 889 = .ok (.iload 4, 2) := by decide +kernel
theorem d_law_891 : decode b_law 891 = .ok (.iconst 1, 1) := by decide +kernel
theorem d_law_892 : decode b_law 892 = .ok (.iadd, 1) := by decide +kernel
theorem d_law_893 : decode b_law 893 = .ok (.iaload, 1) := by decide +kernel
theorem d_law_894 : decode b_law 894 = .ok (.aload_n 0, 1) := by decide +kernel
theorem d_law_895 : decode b_law 895 = .ok (.iload 4, 2) := by decide +kernel
theorem d_law_897 : decode b_law 897 = .ok (.iconst 2, 1) := by decide +kernel
theorem d_law_898 : decode b_law 898 = .ok (.iadd, 1) := by decide +kernel
theorem d_law_899 : decode b_law 899 = .ok (.iaload, 1) := by decide +kernel
theorem d_law_900 : decode b_law 900 = .ok (.invokevirtual 139, 3) := by decide +kernel
theorem d_law_903 : decode b_law 903 = .ok (.lstore 6, 2) := by decide +kernel
theorem d_law_905 : decode b_law 905 = .ok (.aload_n 2, 1) := by decide +kernel
theorem d_law_906 : decode b_law 906 = .ok (.invokevirtual 94, 3) := by decide +kernel
theorem d_law_909 : decode b_law 909 = .ok (.iload 5, 2) := by decide +kernel
theorem d_law_911 : decode b_law 911 = .ok (.if_icmp .eq 5, 3) := by decide +kernel
theorem d_law_916 : decode b_law 916 = .ok (.iload 5, 2) := by decide +kernel
theorem d_law_918 : decode b_law 918 = .ok (.ifCond .ne 14, 3) := by decide +kernel
theorem d_law_932 : decode b_law 932 = .ok (.goto 349, 3) := by decide +kernel
theorem d_law_935 : decode b_law 935 = .ok (.aload_n 1, 1) := by decide +kernel
theorem d_law_936 : decode b_law 936 = .ok (.aload_n 0, 1) := by decide +kernel
theorem d_law_937 : decode b_law 937 = .ok (.iload 4, 2) := by decide +kernel
theorem d_law_939 : decode b_law 939 = .ok (.iconst 1, 1) := by decide +kernel
theorem d_law_940 : decode b_law 940 = .ok (.iadd, 1) := by decide +kernel
theorem d_law_941 : decode b_law 941 = .ok (.iaload, 1) := by decide +kernel
theorem d_law_942 : decode b_law 942 = .ok (.aload_n 3, 1) := by decide +kernel
theorem d_law_943 : decode b_law 943 = .ok (.invokestatic 140, 3) := by decide +kernel
theorem d_law_946 : decode b_law 946 = .ok (.istore 5, 2) := by decide +kernel
theorem d_law_948 : decode b_law 948 = .ok (.aload_n 2, 1) := by decide +kernel
theorem d_law_949 : decode b_law 949 = .ok (.aload_n 0, 1) := by decide +kernel
theorem d_law_950 : decode b_law 950 = .ok (.iload 4, 2) := by decide +kernel
theorem d_law_952 : decode b_law 952 = .ok (.iconst 1, 1) := by decide +kernel
