/-! decode rows of the law -/
theorem dL_law_870 : decode mL.2.1 870 = .ok (.invokevirtual 120, 3) := by decide +kernel
theorem dL_law_873 : decode mL.2.1 873 = .ok (.if_icmp .eq 622, 3) := by decide +kernel
theorem dL_law_878 : decode mL.2.1 878 = .ok (.aload_n 1, 1) := by decide +kernel
theorem dL_law_879 : decode mL.2.1 879 = .ok (.aload_n 0, 1) := by decide +kernel
theorem dL_law_880 : decode mL.2.1 880 = .ok (.iload_n 3, 1) := by decide +kernel
theorem dL_law_881 : decode mL.2.1 881 = .ok (.iconst 1, 1) := by decide +kernel
theorem dL_law_882 : decode mL.2.1 882 = .ok (.iadd, 1) := by decide +kernel
theorem dL_law_883 : decode mL.2.1 883 = .ok (.iaload, 1) := by decide +kernel
theorem dL_law_884 : decode mL.2.1 884 = .ok (.aload_n 0, 1) := by decide +kernel
theorem dL_law_885 : decode mL.2.1 885 = .ok (.iload_n 3, 1) := by decide +kernel
theorem dL_law_886 : decode mL.2.1 886 = .ok (.iconst 2, 1) := by decide +kernel
theorem dL_law_887 : decode mL.2.1 887 = .ok (.iadd, 1) := by decide +kernel
theorem dL_law_888 : decode mL.2.1 888 = .ok (.iaload, 1) := by decide +kernel
theorem dL_law_889 : decode mL.2.1 889 = .ok (.invokevirtual 121, 3) := by decide +kernel
theorem dL_law_892 : decode mL.2.1 892 = .ok (.aload_n 2, 1) := by decide +kernel
theorem dL_law_893 : decode mL.2.1 893 = .ok (.aload_n 0, 1) := by decide +kernel
theorem dL_law_894 : decode mL.2.1 894 = .ok (.iload_n 3, 1) := by decide +kernel
theorem dL_law_895 : decode mL.2.1 895 = .ok (.iconst 1, 1) := by decide +kernel
theorem dL_law_896 : decode mL.2.1 896 = .ok (.iadd, 1) := by decide +kernel
theorem dL_law_897 : decode mL.2.1 897 = .ok (.iaload, 1) := by decide +kernel
theorem dL_law_898 : decode mL.2.1 898 = .ok (.aload_n 0, 1) := by decide +kernel
theorem dL_law_899 : decode mL.2.1 899 = .ok (.iload_n 3, 1) := by decide +kernel
theorem dL_law_900 : decode mL.2.1 900 = .ok (.iconst 2, 1) := by decide +kernel
theorem dL_law_901 : decode mL.2.1 901 = .ok (.iadd, 1) := by decide +kernel
theorem dL_law_902 : decode mL.2.1 902 = .ok (.iaload, 1) := by decide +kernel
theorem dL_law_903 : decode mL.2.1 903 = .ok (.invokevirtual 124, 3) := by decide +kernel
theorem dL_law_906 : decode mL.2.1 906 = .ok (.if_icmp .eq 589, 3) := by decide +kernel
theorem dL_law_911 : decode mL.2.1 911 = .ok (.aload_n 1, 1) := by decide +kernel
theorem dL_law_912 : decode mL.2.1 912 = .ok (.aload_n 0, 1) := by decide +kernel
theorem dL_law_913 : decode mL.2.1 913 = .ok (.iload_n 3, 1) := by decide +kernel
theorem dL_law_914 : decode mL.2.1 914 = .ok (.iconst 1, 1) := by decide +kernel
theorem dL_law_915 : decode mL.2.1 915 = .ok (.iadd, 1) := by decide +kernel
theorem dL_law_916 : decode mL.2.1 916 = .ok (.iaload, 1) := by decide +kernel
theorem dL_law_917 : decode mL.2.1 917 = .ok (.aload_n 0, 1) := by decide +kernel
theorem dL_law_918 : decode mL.2.1 918 = .ok (.iload_n 3, 1) := by decide +kernel
theorem dL_law_919 : decode mL.2.1 919 = .ok (.iconst 2, 1) := by decide +kernel
theorem dL_law_920 : decode mL.2.1 920 = .ok (.iadd, 1) := by decide +kernel
theorem dL_law_921 : decode mL.2.1 921 = .ok (.iaload, 1) := by decide +kernel
theorem dL_law_922 : decode mL.2.1 922 = .ok (.invokevirtual 125, 3) := by decide +kernel
theorem dL_law_925 : decode mL.2.1 925 = .ok (.aload_n 2, 1) := by decide +kernel
theorem dL_law_926 : decode mL.2.1 926 = .ok (.aload_n 0, 1) := by decide +kernel
theorem dL_law_927 : decode mL.2.1 927 = .ok (.iload_n 3, 1) := by decide +kernel
theorem dL_law_928 : decode mL.2.1 928 = .ok (.iconst 1, 1) := by decide +kernel
theorem dL_law_929 : decode mL.2.1 929 = .ok (.iadd, 1) := by decide +kernel
theorem dL_law_930 : decode mL.2.1 930 = .ok (.iaload, 1) := by decide +kernel
theorem dL_law_931 : decode mL.2.1 931 = .ok (.aload_n 0, 1) := by decide +kernel
theorem dL_law_932 : decode mL.2.1 932 = .ok (.iload_n 3, 1) := by decide +kernel
theorem dL_law_933 : decode mL.2.1 933 = .ok (.iconst 2, 1) := by decide +kernel
theorem dL_law_934 : decode mL.2.1 934 = .ok (.iadd, 1) := by decide +kernel
theorem dL_law_935 : decode mL.2.1 935 = .ok (.iaload, 1) := by decide +kernel
theorem dL_law_936 : decode mL.2.1 936 = .ok (.invokevirtual 128, 3) := by decide +kernel
theorem dL_law_939 : decode mL.2.1 939 = .ok (.if_icmp .eq 556, 3) := by decide +kernel
theorem dL_law_944 : decode mL.2.1 944 = .ok (.aload_n 1, 1) := by decide +kernel
theorem dL_law_945 : decode mL.2.1 945 = .ok (.aload_n 0, 1) := by decide +kernel
theorem dL_law_946 : decode mL.2.1 946 = .ok (.iload_n 3, 1) := by decide +kernel
theorem dL_law_947 : decode mL.2.1 947 = .ok (.iconst 1, 1) := by decide +kernel
theorem dL_law_948 : decode mL.2.1 948 = .ok (.iadd, 1) := by decide +kernel
theorem dL_law_949 : decode mL.2.1 949 = .ok (.iaload, 1) := by decide +kernel
theorem dL_law_950 : decode mL.2.1 950 = .ok (.aload_n 0, 1) := by decide +kernel
theorem dL_law_951 : decode mL.2.1 951 = .ok (.iload_n 3, 1) := by decide +kernel
theorem dL_law_952 : decode mL.2.1 952 = .ok (.iconst 2, 1) := by decide +kernel
theorem dL_law_953 : decode mL.2.1 953 = .ok (.iadd, 1) := by decide +kernel
theorem dL_law_954 : decode mL.2.1 954 = .ok (.iaload, 1) := by decide +kernel
theorem dL_law_955 : decode mL.2.1 955 = .ok (.invokevirtual 129, 3) := by decide +kernel
theorem dL_law_958 : decode mL.2.1 958 = .ok (.aload_n 2, 1) := by decide +kernel
theorem dL_law_959 : decode mL.2.1 959 = .ok (.aload_n 0, 1) := by decide +kernel
theorem dL_law_960 : decode mL.2.1 960 = .ok (.iload_n 3, 1) := by decide +kernel
theorem dL_law_961 : decode mL.2.1 961 = .ok (.iconst 1, 1) := by decide +kernel
theorem dL_law_962 : decode mL.2.1 962 = .ok (.iadd, 1) := by decide +kernel
theorem dL_law_963 : decode mL.2.1 963 = .ok (.iaload, 1) := by decide +kernel
theorem dL_law_964 : decode mL.2.1 964 = .ok (.aload_n 0, 1) := by decide +kernel
theorem dL_law_965 : decode mL.2.1 965 = .ok (.iload_n 3, 1) := by decide +kernel
theorem dL_law_966 : decode mL.2.1 966 = .ok (.iconst 2, 1) := by decide +kernel
theorem dL_law_967 : decode mL.2.1 967 = .ok (.iadd, 1) := by decide +kernel
theorem dL_law_968 : decode mL.2.1 968 = .ok (.iaload, 1) := by decide +kernel
